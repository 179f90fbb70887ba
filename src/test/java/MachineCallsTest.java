import java.util.function.Supplier;

/** Promises 12 to 18: sending, running, aborting, sweeping, and what the machine tells of itself. */
public final class MachineCallsTest {
    private static final Checks C = new Checks();
    private static final int BAD = MessageMachine.BAD;

    public static void main(String[] args) {
        send();
        sendArguments();
        sendToANumber();
        sendWhenNotIdle();
        sendWithoutHandleOrSelector();
        sendWithoutMethod();
        sendWithoutRoom();
        run();
        runStopsWhenIdle();
        runWhenNotRunning();
        runOneThatFails();
        runBad();
        abort();
        abortWhenHalted();
        abortWhenIdle();
        sweep();
        sweepWhenRunning();
        sweepWhenHalted();
        state();
        reason();
        noReason();
        active();
        noneActive();
        C.end();
    }

    private static void send() {
        C.sentence("a context without a sender becomes active");
        MessageMachine m = Machines.idle();
        C.yes("send", m.send(2, 0));
        C.due("state", m.state(), 1);
        C.due("active", m.active(), 8);
        int[] due = {0, 6, 4, 1000, 1000, 0, 0, 0, 0, 0, 0, 0, 0, 0, 0, BAD};
        for (int k = 0; k < due.length; k++) {
            C.due("field " + k, m.field(8, k), due[k]);
        }
        C.due("class", m.classOf(8), 3);
        C.due("stack", m.stack(8), 0);
        C.due("held by the active register", m.count(8), 1);
        for (int h = 0; h < 6; h++) {
            C.due("handle " + h, m.handle(h), Machines.idle().handle(h));
        }
    }

    private static void sendArguments() {
        C.sentence("with handles h + 1 and h + 2 (behind 5 comes 0) as arguments, as many as there are");
        for (int h = 0; h < 6; h++) {
            for (int s = 0; s < 8; s++) {
                MessageMachine m = new MessageMachine();
                m.kind(0, 0);
                Machines.code(m, 0, s, 0xB1);
                for (int i = 0; i < 6; i++) {
                    m.number(i, i);
                }
                C.yes("send " + h + " " + s, m.send(h, s));
                C.due("receiver", m.field(4, 1), 1000 + h);
                for (int i = 0; i < 4; i++) {
                    C.due("temporary " + i, m.field(4, 5 + i), i < s % 3 ? 1000 + (h + 1 + i) % 6 : 0);
                }
            }
        }
    }

    private static void sendToANumber() {
        C.sentence("Sends a selector to what handle h holds");
        MessageMachine m = Machines.idle();
        m.kind(5, 3);
        Machines.code(m, 5, 6, 0x28, 0x25, 0x70, 0xB0);
        C.yes("a number", m.send(3, 6));
        C.due("found in class 2", m.field(8, 2), 2);
        m.run(500);
        C.due("answer", m.handle(0), 1008);
        m = Machines.idle();
        m.kind(4, 5);
        Machines.code(m, 4, 6, 0x29, 0xB0);
        C.yes("nil", m.send(5, 6));
        C.due("receiver nil", m.field(7, 1), 0);
        m.run(500);
        C.due("the class of nil", m.handle(0), 1);
        C.yes("a class", m.send(1, 6));
    }

    private static void sendWhenNotIdle() {
        C.sentence("False when the machine isn't idle (send)");
        C.refused("running", Machines::running, m -> m.send(2, 0));
        C.refused("halted", Machines::halted, m -> m.send(2, 0));
        MessageMachine m = Machines.halted();
        m.abort();
        C.yes("idle again", m.send(2, 0));
    }

    private static void sendWithoutHandleOrSelector() {
        C.sentence("False when there is no such handle or selector (send)");
        for (int h : Machines.WRONG_HANDLES) {
            C.refusedEverywhere("handle " + h, m -> m.send(h, 0));
        }
        for (int s : Machines.WRONG_SELECTORS) {
            C.refusedEverywhere("selector " + s, m -> m.send(2, s));
        }
    }

    private static void sendWithoutMethod() {
        C.sentence("False when there is no method (send)");
        for (int s : new int[] {1, 2, 5, 6, 7}) {
            C.refused("selector " + s, Machines::idle, m -> m.send(2, s));
        }
        C.refused("a class does not have its instances' methods", Machines::idle, m -> m.send(1, 0));
        C.refused("nil has none", Machines::idle, m -> m.send(5, 0));
        C.refused("numbers have none", Machines::idle, m -> m.send(3, 0));
        MessageMachine m = Machines.idle();
        m.inherit(1, 5);
        C.no("not with another superclass", m.send(2, 0));
        C.yes("but its own", m.send(2, 3));
    }

    private static void sendWithoutRoom() {
        C.sentence("False when there is no room (send)");
        C.refused("all are alive", Machines::full, m -> m.send(2, 0));
        MessageMachine m = Machines.full();
        m.fetch(1, 1, 0);
        C.yes("one place is room", m.send(2, 0));
        C.due("the last one", m.active(), 27);
    }

    private static MessageMachine looping() {
        MessageMachine m = Machines.idle();
        Machines.code(m, 0, 6, 0x80, 0x80, 0xA2);
        m.send(2, 6);
        return m;
    }

    private static void run() {
        C.sentence("Does up to n bytes, as long as the machine is running");
        for (int n : new int[] {0, 1, 2, 3, 499, 500}) {
            MessageMachine m = looping();
            C.due("run " + n, m.run(n), n);
            C.due("place behind " + n, m.field(8, 4), 1000 + n % 3);
            C.due("state", m.state(), 1);
        }
        C.changesNothing("run 0", Machines::running, m -> m.run(0));
        MessageMachine m = looping();
        for (int i = 0; i < 20; i++) {
            C.due("500 more", m.run(500), 500);
        }
    }

    private static void runStopsWhenIdle() {
        C.sentence("as long as the machine is running");
        MessageMachine m = Machines.running();
        C.due("to the end and no more", m.run(500), 6);
        C.due("idle", m.state(), 0);
        C.due("answer", m.handle(0), 1006);
        m = Machines.running();
        C.due("all but the last", m.run(5), 5);
        C.due("running", m.state(), 1);
        C.due("the last", m.run(1), 1);
        C.due("idle", m.state(), 0);
    }

    private static void runWhenNotRunning() {
        C.sentence("(0, if it is not)");
        for (int n : new int[] {0, 1, 500}) {
            C.due("new", new MessageMachine().run(n), 0);
            C.due("idle", Machines.idle().run(n), 0);
            C.due("halted", Machines.halted().run(n), 0);
            C.changesNothing("run when idle", Machines::idle, m -> m.run(n));
            C.changesNothing("run when halted", Machines::halted, m -> m.run(n));
        }
    }

    private static void runOneThatFails() {
        C.sentence("Answers how many were done (one that fails isn't)");
        MessageMachine m = Machines.idle();
        m.send(2, 3);
        C.due("two, and one that fails", m.run(500), 2);
        C.due("halted", m.state(), 2);
        C.due("none then", m.run(500), 0);
        m = Machines.idle();
        m.send(2, 3);
        C.due("just the two", m.run(2), 2);
        C.due("the third is not yet looked at", m.state(), 1);
        C.due("no reason yet", m.reason(), 0);
        C.due("it fails", m.run(1), 0);
        C.due("now", m.state(), 2);
    }

    private static void runBad() {
        C.sentence("BAD when n is not 0 .. 500");
        for (int n : new int[] {-1, 501, 1000, Integer.MIN_VALUE, Integer.MAX_VALUE}) {
            C.badEverywhere("run " + n, m -> m.run(n));
        }
    }

    private static void abort() {
        C.sentence("The active register becomes nil: the machine is idle");
        MessageMachine m = Machines.running();
        C.yes("abort", m.abort());
        C.due("state", m.state(), 0);
        C.due("active", m.active(), 0);
        C.due("contexts go", m.alive(), 8);
        C.due("stack", m.stack(9), BAD);
        C.due("handle 0 gets no answer", m.handle(0), 4);
        C.due("no byte more", m.run(500), 0);
        C.yes("a send can begin", m.send(2, 0));
        C.due("the least number again", m.active(), 8);
    }

    private static void abortWhenHalted() {
        C.sentence("(also if it was halted; the reason is 0 then)");
        MessageMachine m = Machines.halted();
        C.due("reason before", m.reason(), 3);
        C.yes("abort", m.abort());
        C.due("reason", m.reason(), 0);
        C.due("state", m.state(), 0);
        C.due("active", m.active(), 0);
        C.due("the context goes", m.alive(), 8);
        C.yes("a send can begin", m.send(2, 0));
        C.due("running", m.state(), 1);
        C.due("no reason", m.reason(), 0);
        C.due("bytes are done", m.run(500), 12);
    }

    private static void abortWhenIdle() {
        C.sentence("False when it is (abort)");
        C.refused("new", MessageMachine::new, m -> m.abort());
        C.refused("idle", Machines::idle, m -> m.abort());
        C.refused("returned", MachineCallsTest::returned, m -> m.abort());
        MessageMachine m = Machines.running();
        C.yes("once", m.abort());
        C.no("not twice", m.abort());
    }

    private static MessageMachine returned() {
        MessageMachine m = Machines.running();
        m.run(500);
        return m;
    }

    /** Instances 8 and 9 of class 4 hold one another, and nothing else holds them. */
    private static MessageMachine withRing() {
        MessageMachine m = Machines.idle();
        m.make(4, 0);
        m.make(5, 0);
        m.store(4, 0, 5);
        m.store(5, 0, 4);
        m.drop(4);
        m.drop(5);
        return m;
    }

    private static void sweep() {
        C.sentence("Sweeps; answers how many objects were given back");
        C.due("new", new MessageMachine().sweep(), 0);
        C.due("nothing", Machines.idle().sweep(), 0);
        MessageMachine m = withRing();
        C.due("alive before", m.alive(), 9);
        C.due("two", m.sweep(), 2);
        C.due("alive", m.alive(), 7);
        C.due("none more", m.sweep(), 0);
        m = Machines.full();
        for (int h = 0; h < 6; h++) {
            m.drop(h);
        }
        C.due("all that can go", m.alive() - 4, m.sweep());
        C.due("four stay", m.alive(), 4);
    }

    private static void sweepWhenRunning() {
        C.sentence("Sweeps (running)");
        MessageMachine m = withRing();
        m.send(2, 0);
        m.run(6);
        m.drop(0);
        m.drop(1);
        m.drop(2);
        C.due("two, and no context", m.sweep(), 2);
        C.due("state", m.state(), 1);
        C.due("it runs on", m.run(500), 6);
        C.due("to its answer", m.handle(0), 1006);
    }

    private static void sweepWhenHalted() {
        C.sentence("Sweeps (halted)");
        MessageMachine m = Machines.halted();
        m.drop(2);
        C.due("nothing", m.sweep(), 0);
        C.due("state", m.state(), 2);
        C.due("reason", m.reason(), 3);
        C.due("active", m.active(), 8);
        C.due("stack", m.stack(8), 2);
    }

    private static void state() {
        C.sentence("0 idle, 1 running, 2 halted");
        C.due("new", new MessageMachine().state(), 0);
        C.due("idle", Machines.idle().state(), 0);
        C.due("running", Machines.running().state(), 1);
        C.due("halted", Machines.halted().state(), 2);
        C.due("returned", returned().state(), 0);
        for (Supplier<MessageMachine> made : Machines.ALL) {
            C.changesNothing("state", made, m -> m.state());
        }
    }

    private static void reason() {
        C.sentence("Why it is halted");
        int[][] bytes = {{0xD1}, {0x28, 0x56}, {0xF0}, null, {0x2D, 0x2D, 0x72, 0xD0, 0x72}, {0x8F}};
        for (int reason = 1; reason <= 6; reason++) {
            MessageMachine m = Machines.idle();
            if (reason == 4) {
                m = Machines.full();
                m.fetch(1, 1, 0);
                Machines.code(m, 0, 7, 0x2A, 0xC0);
            } else {
                Machines.code(m, 0, 7, bytes[reason - 1]);
            }
            m.send(2, 7);
            m.run(500);
            C.due("reason", m.reason(), reason);
            C.due("state", m.state(), 2);
        }
    }

    private static void noReason() {
        C.sentence("0 when it isn't (reason)");
        C.due("new", new MessageMachine().reason(), 0);
        C.due("idle", Machines.idle().reason(), 0);
        C.due("running", Machines.running().reason(), 0);
        C.due("returned", returned().reason(), 0);
        MessageMachine m = Machines.halted();
        m.abort();
        C.due("aborted", m.reason(), 0);
        for (Supplier<MessageMachine> made : Machines.ALL) {
            C.changesNothing("reason", made, x -> x.reason());
        }
    }

    private static void active() {
        C.sentence("The active context");
        MessageMachine m = Machines.idle();
        m.send(2, 0);
        int[] due = {8, 8, 8, 8, 9, 9, 9, 9, 9, 9, 8, 8, 0};
        for (int i = 0; i < due.length; i++) {
            C.due("behind " + i + " bytes", m.active(), due[i]);
            m.run(1);
        }
        C.due("halted", Machines.halted().active(), 8);
    }

    private static void noneActive() {
        C.sentence("0 when there is none (active)");
        C.due("new", new MessageMachine().active(), 0);
        C.due("idle", Machines.idle().active(), 0);
        C.due("returned", returned().active(), 0);
        MessageMachine m = Machines.halted();
        m.abort();
        C.due("aborted", m.active(), 0);
        for (Supplier<MessageMachine> made : Machines.ALL) {
            C.changesNothing("active", made, x -> x.active());
        }
    }
}
