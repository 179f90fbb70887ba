import java.util.List;
import java.util.function.Consumer;
import java.util.function.Predicate;
import java.util.function.Supplier;
import java.util.function.ToIntFunction;

/** Counts the answers that are not as due, each told with the sentence of the document that it breaks. */
final class Checks {
    private static final int BAD = MessageMachine.BAD;

    private String sentence = "";
    private int sentences = 0;
    private int looked = 0;
    private int wrong = 0;

    /** What follows tests this sentence of the document, told in its words; brackets behind it say which part. */
    void sentence(String quoted) {
        sentence = quoted;
        sentences++;
    }

    void due(String what, long got, long want) {
        looked++;
        if (got != want) {
            wrong++;
            System.out.println("'" + sentence + "': " + what + " answered " + got + ", due is " + want);
        }
    }

    void yes(String what, boolean got) {
        due(what, got ? 1 : 0, 1);
    }

    void no(String what, boolean got) {
        due(what, got ? 1 : 0, 0);
    }

    /** The call answers false, and nothing is otherwise than without it. */
    void refused(String what, Supplier<MessageMachine> made, Predicate<MessageMachine> call) {
        no(what, call.test(made.get()));
        changesNothing(what, made, call::test);
    }

    /** The call answers BAD, and nothing is otherwise than without it. */
    void bad(String what, Supplier<MessageMachine> made, ToIntFunction<MessageMachine> call) {
        due(what, call.applyAsInt(made.get()), BAD);
        changesNothing(what, made, call::applyAsInt);
    }

    void refusedEverywhere(String what, Predicate<MessageMachine> call) {
        for (Supplier<MessageMachine> made : Machines.ALL) {
            refused(what, made, call);
        }
    }

    void badEverywhere(String what, ToIntFunction<MessageMachine> call) {
        for (Supplier<MessageMachine> made : Machines.ALL) {
            bad(what, made, call);
        }
    }

    void changesNothing(String what, Supplier<MessageMachine> made, Consumer<MessageMachine> call) {
        for (int part = 0; part < Look.PARTS; part++) {
            List<String> without = Look.at(part, made.get());
            same(what + " changes", without, Look.at(part, after(made, call)));
        }
    }

    /** The next byte fails by the reason, which is all that changes. */
    void halts(String what, Supplier<MessageMachine> made, int reason) {
        MessageMachine m = made.get();
        due(what + ": state before", m.state(), 1);
        due(what + ": bytes done", m.run(1), 0);
        due(what + ": state", m.state(), 2);
        due(what + ": reason", m.reason(), reason);
        due(what + ": bytes done when halted", m.run(500), 0);
        due(what + ": reason still", m.reason(), reason);
        for (int part = 0; part < Look.PARTS_BUT_CONDITION; part++) {
            same(what + " changes", Look.at(part, made.get()), Look.at(part, after(made, x -> x.run(1))));
        }
        for (int part = 0; part < Look.PARTS; part++) {
            List<String> without = Look.at(part, after(made, MessageMachine::abort));
            same(what + " changes, aborted", without, Look.at(part, after(made, x -> {
                x.run(1);
                x.abort();
            })));
        }
    }

    void end() {
        System.out.println(sentences + " sentences, " + looked + " answers looked at, " + wrong + " wrong");
        if (wrong != 0) {
            System.exit(1);
        }
    }

    private static MessageMachine after(Supplier<MessageMachine> made, Consumer<MessageMachine> call) {
        MessageMachine m = made.get();
        call.accept(m);
        return m;
    }

    private void same(String what, List<String> without, List<String> with) {
        looked++;
        for (int i = 0; i < without.size(); i++) {
            if (!without.get(i).equals(with.get(i))) {
                wrong++;
                System.out.println("'" + sentence + "': " + what + " " + without.get(i) + " to " + with.get(i));
                return;
            }
        }
    }
}
