import java.util.function.Predicate;
import java.util.function.Supplier;

/** Room, counts, steps and sweeping: which objects are given back, which stick, and when. */
public final class CountsTest {
    private static final Checks C = new Checks();
    private static final int BAD = MessageMachine.BAD;

    public static void main(String[] args) {
        leastNumber();
        leastNumberOfAByte();
        noRoom();
        heldByFields();
        heldBySuperclasses();
        heldByContexts();
        heldByInstances();
        heldByHandles();
        heldByTheActiveRegister();
        numbersAreNotHeld();
        bytesAreSteps();
        callsAreSteps();
        endOfACallOnly();
        endOfAByteOnly();
        asLongAsThereIs();
        asLongAsThereIsInAnyOrder();
        firstFourStay();
        stuckOnesStay();
        holdsNothing();
        ringsStay();
        givenBackBeforeSticking();
        stuckAtTheVeryBeginning();
        sixOrMore();
        stuckByCalls();
        stuckBySends();
        stuckByBytes();
        stuckFromThenOn();
        stuckOnesHold();
        newOnesAreNotStuck();
        sweptFromTheFirst();
        sweptFromHandles();
        sweptFromTheActiveRegister();
        sweptByFields();
        sweptByClasses();
        sweptAllElse();
        sweptStuckOnes();
        sweptThoseThatSixHold();
        sweptAndNoOthers();
        sweptHoldersAreNotCounted();
        sweptNil();
        C.end();
    }

    /** Handle 0 holds class 4, of size 6, handle 1 its instance 5. */
    private static MessageMachine withInstance() {
        MessageMachine m = new MessageMachine();
        m.define(0, 5, 6);
        m.make(1, 0);
        return m;
    }

    private static MessageMachine inHandles(int handles) {
        MessageMachine m = withInstance();
        for (int h = 0; h < handles; h++) {
            m.move(h, 1);
        }
        return m;
    }

    /** Handles 0 to 3 hold instance 5, and so does field 0 of instance 6, which handle 5 holds. */
    private static MessageMachine heldByFive() {
        MessageMachine m = withInstance();
        m.make(5, 0);
        m.store(5, 0, 1);
        m.move(0, 1);
        m.move(2, 1);
        m.move(3, 1);
        return m;
    }

    private static void dropAll(MessageMachine m) {
        for (int h = 0; h < 6; h++) {
            m.drop(h);
        }
    }

    private static void leastNumber() {
        C.sentence("a new object has the least number that is not alive");
        MessageMachine m = new MessageMachine();
        for (int h = 0; h < 5; h++) {
            C.due("in order", m.define(h, 5, 0), 4 + h);
        }
        m.drop(3);
        m.drop(1);
        C.due("the lesser gap", m.define(1, 5, 0), 5);
        C.due("the other gap", m.make(3, 0), 7);
        C.due("behind the last", m.make(5, 0), 9);
        m.drop(0);
        C.due("one whose instances hold it is no gap", m.define(0, 1, 0), 10);
    }

    private static void leastNumberOfAByte() {
        C.sentence("a new object has the least number that is not alive (bytes and sends)");
        MessageMachine m = new MessageMachine();
        m.define(0, 5, 0);
        m.define(1, 5, 0);
        m.define(2, 5, 0);
        m.make(3, 0);
        Machines.code(m, 0, 0, 0x2A, 0xC0, 0x28, 0x50);
        m.drop(1);
        m.send(3, 0);
        C.due("a context", m.active(), 5);
        m.drop(2);
        m.run(2);
        C.due("an instance", m.field(5, 9), 6);
        m.run(2);
        C.due("another context", m.active(), 8);
    }

    private static void noRoom() {
        C.sentence("there is no room when all are");
        MessageMachine m = Machines.full();
        C.due("all", m.alive(), 28);
        C.due("for a class", m.define(5, 5, 0), BAD);
        C.due("for an instance", m.make(5, 0), BAD);
        C.no("for a context", m.send(2, 0));
        m.drop(4);
        C.due("one is not", m.alive(), 27);
        C.due("for a class now", m.define(5, 5, 0), 7);
        m.drop(5);
        C.due("for an instance now", m.make(5, 0), 7);
        m.drop(5);
        C.yes("for a context now", m.send(2, 0));
        C.due("there", m.active(), 7);
    }

    private static void heldByFields() {
        C.sentence("what HOLDS an object are: each field of objects alive with it");
        MessageMachine m = withInstance();
        m.make(2, 0);
        for (int k = 0; k < 3; k++) {
            m.store(1, k, 2);
            C.due("each field for itself", m.count(6), 2 + k);
        }
        m.store(2, 0, 2);
        C.due("its own field, too", m.count(6), 5);
        m.store(1, 1, 5);
        C.due("no more with nil", m.count(6), 4);
    }

    private static void heldBySuperclasses() {
        C.sentence("each field of objects alive with it (a superclass)");
        MessageMachine m = new MessageMachine();
        m.define(0, 5, 0);
        m.define(1, 0, 0);
        m.define(2, 0, 0);
        C.due("a handle and two classes", m.count(4), 3);
        m.inherit(2, 1);
        C.due("one class", m.count(4), 2);
        C.due("the other", m.count(5), 2);
    }

    private static void heldByContexts() {
        C.sentence("each field of objects alive with it (contexts)");
        MessageMachine m = withInstance();
        Machines.code(m, 0, 1, 0x00, 0x31, 0x28, 0x51);
        m.move(2, 1);
        m.send(1, 1);
        C.due("two handles, receiver, argument", m.count(5), 4);
        C.due("class: handle, instance, found in", m.count(4), 3);
        m.run(1);
        C.due("and a word of the stack", m.count(5), 5);
        m.drop(2);
        m.run(1);
        C.due("and a temporary", m.count(5), 4);
        m.run(1);
        C.due("a word of the stack again", m.count(5), 5);
        Machines.code(m, 0, 0, 0x80);
        Machines.code(m, 0, 1, 0x00, 0x31, 0x28, 0x50);
        m.run(1);
        C.due("a sender", m.count(6), 1);
        C.due("the receiver of two contexts", m.count(5), 5);
        m.abort();
        C.due("contexts that are gone hold nothing", m.count(5), 1);
    }

    private static void heldByInstances() {
        C.sentence("each object alive of that class");
        MessageMachine m = withInstance();
        C.due("a handle and an instance", m.count(4), 2);
        m.make(2, 0);
        C.due("two instances", m.count(4), 3);
        m.drop(2);
        C.due("one again", m.count(4), 2);
        m.drop(0);
        C.due("it alone", m.count(4), 1);
        m.number(3, 1);
        m.kind(3, 3);
        m.make(4, 3);
        C.due("class 2: a handle and an instance, no numbers", m.count(2), 2);
        Machines.code(m, 3, 0, 0x80);
        m.send(1, 0);
        C.due("class 3: no context without a method", m.count(3), 0);
        m.send(4, 0);
        C.due("class 3: a context", m.count(3), 1);
    }

    private static void heldByHandles() {
        C.sentence("each handle with it");
        for (int handles = 2; handles < 6; handles++) {
            C.due(handles + " handles", inHandles(handles).count(5), handles);
        }
    }

    private static void heldByTheActiveRegister() {
        C.sentence("and the active register");
        MessageMachine m = Machines.running();
        C.due("the active context", m.count(9), 1);
        C.due("its sender by a field alone", m.count(8), 1);
        m = nilHeldByFew();
        C.due("nil, when idle: class 1 and the register", m.count(0), 2);
    }

    /** No handle holds nil, and it isn't stuck. */
    private static MessageMachine nilHeldByFew() {
        MessageMachine m = new MessageMachine();
        for (int h = 0; h < 6; h++) {
            m.number(h, h);
        }
        m.sweep();
        return m;
    }

    private static void numbersAreNotHeld() {
        C.sentence("what HOLDS an object (a number is none)");
        MessageMachine m = withInstance();
        for (int h = 2; h < 6; h++) {
            m.number(h, 5);
            m.store(1, h - 2, h);
        }
        C.due("object 5 is not number 5", m.count(5), 1);
    }

    private static void bytesAreSteps() {
        C.sentence("STEPS are the bytes done");
        MessageMachine m = withInstance();
        Machines.code(m, 0, 0, 0x29, 0xC0, 0xD1, 0x29, 0xC0, 0x30, 0x20, 0x30, 0x29, 0xC0, 0x28, 0x74, 0xA0);
        m.send(1, 0);
        int[] alive = {7, 7, 8, 7, 7, 8, 8, 8, 7, 7, 8, 8, 7};
        for (int i = 0; i < alive.length; i++) {
            C.due("behind " + i + " bytes", m.alive(), alive[i]);
            m.run(1);
        }
        m = withInstance();
        Machines.code(m, 0, 0, 0x29, 0xC0, 0xD1, 0xA3);
        m.send(1, 0);
        C.due("what goes at once takes no room", m.run(500), 500);
    }

    private static void callsAreSteps() {
        C.sentence("and the calls that change something");
        Supplier<MessageMachine> made = () -> {
            MessageMachine m = withInstance();
            m.make(2, 0);
            return m;
        };
        MessageMachine m = made.get();
        m.drop(2);
        C.due("drop", m.alive(), 6);
        m = made.get();
        m.number(2, 1);
        C.due("number", m.alive(), 6);
        m = made.get();
        m.move(2, 0);
        C.due("move", m.alive(), 6);
        m = made.get();
        m.fetch(2, 1, 0);
        C.due("fetch", m.alive(), 6);
        m = made.get();
        m.kind(2, 0);
        C.due("kind", m.alive(), 6);
        m = made.get();
        m.make(2, 0);
        C.due("make", m.alive(), 7);
        C.due("make: the new one", m.handle(2), 7);
        m = made.get();
        m.define(2, 0, 0);
        C.due("define", m.alive(), 7);
        m = made.get();
        m.store(1, 0, 2);
        m.drop(2);
        m.store(1, 0, 5);
        C.due("store", m.alive(), 6);
        m = Machines.running();
        m.abort();
        C.due("abort", m.alive(), 8);
        m = new MessageMachine();
        m.define(0, 5, 0);
        m.define(1, 0, 0);
        m.drop(0);
        m.inherit(1, 5);
        C.due("inherit", m.alive(), 5);
    }

    private static void endOfACallOnly() {
        C.sentence("At the end of each step (a call)");
        MessageMachine m = inHandles(5);
        m.move(0, 1);
        m.move(4, 4);
        C.due("five, and never six at an end", m.count(5), 5);
        m = withInstance();
        m.store(1, 0, 1);
        m.drop(1);
        C.due("one that holds itself", m.classOf(5), 4);
    }

    private static void endOfAByteOnly() {
        C.sentence("At the end of each step (a byte)");
        MessageMachine m = withInstance();
        Machines.code(m, 0, 0, 0x28, 0x53, 0xB0);
        Machines.code(m, 0, 3, 0x28, 0xB0);
        m.move(2, 1);
        m.move(3, 1);
        m.send(1, 0);
        C.due("three handles, a receiver", m.count(5), 4);
        m.run(1);
        C.due("and a word", m.count(5), 5);
        m.run(1);
        C.due("a receiver instead of the word", m.count(5), 5);
        m.drop(3);
        m.run(1);
        C.due("and a word instead of a handle", m.count(5), 5);
        m.run(1);
        C.due("a word in the sender's stack instead of a context's two", m.count(5), 4);
        m.run(1);
        C.due("two handles and handle 0", m.count(5), 3);
    }

    private static void asLongAsThereIs() {
        C.sentence("as long as there is an object that nothing holds");
        MessageMachine m = new MessageMachine();
        for (int i = 0; i < 24; i++) {
            m.define(0, 0, 0);
        }
        C.due("each holds the one before it", m.alive(), 28);
        m.drop(0);
        C.due("all of them go in one step", m.alive(), 4);
    }

    private static void asLongAsThereIsInAnyOrder() {
        C.sentence("as long as there is an object that nothing holds (from lesser numbers to greater ones)");
        MessageMachine m = new MessageMachine();
        m.define(0, 5, 1);
        m.make(1, 0);
        m.move(2, 1);
        for (int i = 0; i < 20; i++) {
            m.make(3, 0);
            m.store(2, 0, 3);
            m.move(2, 3);
        }
        m.drop(2);
        m.drop(3);
        m.drop(0);
        C.due("each holds the one behind it", m.alive(), 26);
        m.drop(1);
        C.due("all of them go in one step, but the class, which is stuck", m.alive(), 5);
        C.due("the class", m.count(4), 6);
    }

    private static void firstFourStay() {
        C.sentence("(but for 0 .. 3)");
        MessageMachine m = new MessageMachine();
        m.number(0, 1);
        m.kind(0, 0);
        C.due("class 2, held", m.count(2), 1);
        m.drop(0);
        C.due("class 2, not held", m.count(2), 0);
        C.due("stays", m.classOf(2), 1);
        C.due("class 3, not held", m.count(3), 0);
        C.due("stays", m.classOf(3), 1);
        C.due("none of their numbers is free", m.define(0, 5, 0), 4);
    }

    private static void stuckOnesStay() {
        C.sentence("and that isn't STUCK");
        MessageMachine m = inHandles(6);
        dropAll(m);
        C.due("nothing holds it", m.count(5), 6);
        C.due("alive", m.alive(), 6);
        C.due("its number is not free", m.define(0, 5, 0), 6);
        m = inHandles(5);
        dropAll(m);
        C.due("five did not stick", m.alive(), 4);
    }

    private static void holdsNothing() {
        C.sentence("it is not alive any more, and holds nothing");
        MessageMachine m = withInstance();
        m.make(2, 0);
        m.make(3, 0);
        m.store(2, 0, 3);
        m.store(2, 1, 3);
        m.store(2, 2, 1);
        C.due("held by it", m.count(7), 3);
        C.due("held by it, too", m.count(5), 2);
        C.due("its class", m.count(4), 4);
        m.drop(2);
        C.due("no more", m.count(7), 1);
        C.due("no more, too", m.count(5), 1);
        C.due("its class", m.count(4), 3);
    }

    private static void ringsStay() {
        C.sentence("an object (but for 0 .. 3) that nothing holds (a ring is held)");
        MessageMachine m = withInstance();
        m.make(2, 0);
        m.store(1, 0, 2);
        m.store(2, 0, 1);
        dropAll(m);
        C.due("both, and their class", m.alive(), 7);
        C.due("each by the other", m.count(5), 1);
        C.due("the class by both", m.count(4), 2);
    }

    private static void givenBackBeforeSticking() {
        C.sentence("Then every object that 6 or more hold is stuck");
        // As handle 5 gets 5 instead of 6, six would hold 5 if 6, which holds it, too, were not given back before.
        MessageMachine m = heldByFive();
        C.due("four handles and a field", m.count(5), 5);
        m.move(5, 1);
        C.due("object 6 is gone", m.classOf(6), BAD);
        C.due("five handles", m.count(5), 5);
        dropAll(m);
        C.due("it was not stuck", m.alive(), 4);
    }

    private static void stuckAtTheVeryBeginning() {
        C.sentence("Then (and at the very beginning)");
        MessageMachine m = new MessageMachine();
        int[] due = {6, 6, 0, 0};
        for (int o = 0; o < 4; o++) {
            C.due("object " + o, m.count(o), due[o]);
        }
        for (int h = 0; h < 6; h++) {
            m.number(h, h);
        }
        C.due("nil, held by two", m.count(0), 6);
        m.sweep();
        C.due("till a sweep", m.count(0), 2);
    }

    private static void sixOrMore() {
        C.sentence("every object that 6 or more hold is stuck");
        C.due("five", inHandles(5).count(5), 5);
        C.due("six", inHandles(6).count(5), 6);
        MessageMachine m = inHandles(6);
        m.drop(0);
        C.due("five, once six", m.count(5), 6);
        m = inHandles(5);
        m.drop(0);
        C.due("four, once five", m.count(5), 4);
        m = inHandles(6);
        m.store(1, 0, 1);
        C.due("seven", m.count(5), 6);
        m = new MessageMachine();
        m.define(0, 5, 0);
        for (int h = 1; h < 5; h++) {
            m.make(h, 0);
        }
        C.due("a class, by four instances", m.count(4), 5);
        m.make(5, 0);
        C.due("a class, by five instances", m.count(4), 6);
        dropAll(m);
        C.due("stuck", m.classOf(4), 1);
        C.due("the instances are not", m.alive(), 5);
    }

    /** Handle 0 holds class 4, and so do four others, classes below it or its instances, in handles 1 to 4. */
    private static MessageMachine classHeldByFive(boolean byClasses) {
        MessageMachine m = new MessageMachine();
        m.define(0, 5, 1);
        for (int h = 1; h < 5; h++) {
            if (byClasses) {
                m.define(h, 0, 0);
            } else {
                m.make(h, 0);
            }
        }
        return m;
    }

    private static void sticks(String what, MessageMachine m, int o, Predicate<MessageMachine> call) {
        C.due(what + ": five before", m.count(o), 5);
        C.yes(what, call.test(m));
        C.due(what + ": six", m.count(o), 6);
        m.abort();
        dropAll(m);
        C.due(what + ": stuck", m.count(o), 6);
    }

    private static void stuckByCalls() {
        C.sentence("every object that 6 or more hold is stuck (by calls)");
        sticks("move", heldByFive(), 5, m -> m.move(4, 0));
        sticks("store", heldByFive(), 5, m -> m.store(5, 1, 0));
        sticks("fetch", heldByFive(), 5, m -> m.fetch(4, 5, 0));
        sticks("kind", classHeldByFive(false), 4, m -> m.kind(5, 1));
        sticks("make", classHeldByFive(false), 4, m -> m.make(5, 0) == 9);
        sticks("define", classHeldByFive(true), 4, m -> m.define(5, 0, 0) == 9);
        MessageMachine six = classHeldByFive(true);
        six.define(5, 1, 0);
        sticks("inherit", six, 4, m -> m.inherit(5, 0));
    }

    private static void stuckBySends() {
        C.sentence("every object that 6 or more hold is stuck (by sends)");
        MessageMachine asReceiver = heldByFive();
        asReceiver.kind(4, 0);
        Machines.code(asReceiver, 4, 0, 0xB1);
        sticks("a receiver", asReceiver, 5, m -> m.send(1, 0));
        MessageMachine asClass = classHeldByFive(false);
        Machines.code(asClass, 0, 0, 0xB1);
        sticks("a class in which it was found", asClass, 4, m -> m.send(1, 0));
        MessageMachine asArgument = heldByFive();
        asArgument.kind(4, 0);
        Machines.code(asArgument, 4, 1, 0xB1);
        asArgument.move(4, 5);
        asArgument.move(0, 5);
        asArgument.store(5, 1, 1);
        sticks("an argument", asArgument, 5, m -> m.send(0, 1));
    }

    private static void stuckByBytes() {
        C.sentence("every object that 6 or more hold is stuck (by bytes)");
        MessageMachine m = withInstance();
        Machines.code(m, 0, 0, 0x28, 0xD0, 0xD0, 0xD0, 0xD1, 0xD1, 0xD1, 0xD1, 0x25, 0xB0);
        m.send(1, 0);
        m.run(3);
        C.due("a handle, a receiver, three words", m.count(5), 5);
        m.run(1);
        C.due("four words", m.count(5), 6);
        m.run(1);
        C.due("three words again", m.count(5), 6);
        m.run(500);
        m.drop(1);
        C.due("stuck", m.classOf(5), 4);
        m = withInstance();
        Machines.code(m, 0, 0, 0x28, 0x50);
        m.send(1, 0);
        m.run(8);
        C.due("class 3, by five contexts", m.count(3), 5);
        m.run(2);
        C.due("class 3, by six", m.count(3), 6);
        m.abort();
        C.due("and none", m.count(3), 6);
    }

    private static void stuckFromThenOn() {
        C.sentence("is stuck from then on");
        MessageMachine m = inHandles(6);
        for (int h = 0; h < 6; h++) {
            m.drop(h);
            C.due("dropped " + h, m.count(5), 6);
        }
        for (int i = 0; i < 20; i++) {
            m.define(i % 6, 5, 0);
        }
        C.due("many steps later", m.count(5), 6);
    }

    private static void stuckOnesHold() {
        C.sentence("each field of objects alive with it (stuck ones)");
        MessageMachine m = withInstance();
        for (int k = 0; k < 5; k++) {
            m.store(1, k, 1);
        }
        m.make(2, 0);
        m.store(1, 5, 2);
        dropAll(m);
        C.due("what a stuck one holds stays", m.count(6), 1);
        C.due("its class, too", m.count(4), 2);
    }

    private static void newOnesAreNotStuck() {
        C.sentence("is stuck from then on (not what gets its number)");
        MessageMachine m = inHandles(6);
        dropAll(m);
        C.due("swept", m.sweep(), 2);
        m.define(0, 5, 1);
        m.make(1, 0);
        C.due("a new object 5", m.count(5), 1);
        C.due("its field", m.field(5, 0), 0);
        m.drop(1);
        C.due("goes", m.classOf(5), BAD);
        m.kind(2, 5);
        m.drop(0);
        C.due("an instance where a class was", m.make(1, 2), 4);
        C.no("is no class", m.method(1, 0, 0, 0));
        C.due("has no field", m.field(4, 0), BAD);
    }

    private static void sweptFromTheFirst() {
        C.sentence("what can be reached from 0 .. 3 stays alive");
        MessageMachine m = nilHeldByFew();
        C.due("none of them goes", m.sweep(), 0);
        C.due("four", m.alive(), 4);
        C.due("class 2, that nothing holds", m.classOf(2), 1);
        C.due("class 3, that nothing holds", m.classOf(3), 1);
    }

    private static void sweptFromHandles() {
        C.sentence("what can be reached from the handles stays alive");
        for (int h = 0; h < 6; h++) {
            MessageMachine m = new MessageMachine();
            m.define(h, (h + 1) % 6, 0);
            C.due("handle " + h, m.sweep(), 0);
            C.due("alive", m.alive(), 5);
        }
    }

    private static void sweptFromTheActiveRegister() {
        C.sentence("what can be reached from the active register stays alive");
        MessageMachine m = Machines.running();
        dropAll(m);
        C.due("contexts, receivers and classes", m.sweep(), 0);
        C.due("all but object 7, which was given back", m.alive(), 9);
        C.due("it runs on", m.run(500), 6);
        C.due("then all are given back but the ring", m.alive(), 7);
        C.due("the ring and its classes", m.sweep(), 3);
    }

    private static void sweptByFields() {
        C.sentence("what can be reached by fields");
        MessageMachine m = new MessageMachine();
        m.define(0, 5, 1);
        m.make(1, 0);
        m.move(2, 1);
        for (int i = 0; i < 20; i++) {
            m.make(3, 0);
            m.store(2, 0, 3);
            m.move(2, 3);
        }
        m.store(2, 0, 1);
        m.drop(2);
        m.drop(3);
        C.due("a long chain", m.sweep(), 0);
        C.due("all of it", m.alive(), 26);
        m.drop(1);
        C.due("a ring of all", m.alive(), 26);
        C.due("not reached any more", m.sweep(), 21);
    }

    private static void sweptByClasses() {
        C.sentence("what can be reached by classes");
        MessageMachine m = new MessageMachine();
        m.define(0, 5, 0);
        m.define(1, 0, 0);
        m.make(2, 1);
        m.drop(0);
        m.drop(1);
        C.due("a class and its superclass", m.sweep(), 0);
        C.due("both", m.alive(), 7);
        C.due("the class", m.classOf(5), 1);
        C.due("the superclass", m.classOf(4), 1);
    }

    private static void sweptAllElse() {
        C.sentence("all else not (sweeping)");
        MessageMachine m = withInstance();
        m.make(2, 0);
        m.store(1, 0, 2);
        m.store(2, 0, 1);
        m.define(3, 0, 1);
        m.make(4, 3);
        m.store(4, 0, 4);
        dropAll(m);
        C.due("two rings, a class and one below it", m.alive(), 9);
        C.due("all go", m.sweep(), 5);
        C.due("four", m.alive(), 4);
        for (int o = 4; o < 9; o++) {
            C.due("object " + o, m.classOf(o), BAD);
        }
        C.due("the least number again", m.define(0, 5, 0), 4);
    }

    private static void sweptStuckOnes() {
        C.sentence("all else not (sweeping: stuck ones)");
        MessageMachine m = inHandles(6);
        dropAll(m);
        C.due("stuck", m.alive(), 6);
        C.due("it and its class go", m.sweep(), 2);
        C.due("four", m.alive(), 4);
        C.due("count", m.count(5), BAD);
    }

    private static void sweptThoseThatSixHold() {
        C.sentence("stuck are then those that 6 or more hold");
        MessageMachine m = inHandles(6);
        m.sweep();
        dropAll(m);
        C.due("stuck still", m.count(5), 6);
        C.due("alive", m.alive(), 6);
        m = new MessageMachine();
        m.sweep();
        C.due("nil, held by eight", m.count(0), 6);
        C.due("class 1, held by six", m.count(1), 6);
    }

    private static void sweptAndNoOthers() {
        C.sentence("(and no others)");
        MessageMachine m = inHandles(6);
        m.drop(0);
        C.due("stuck", m.count(5), 6);
        C.due("swept", m.sweep(), 0);
        C.due("five hold it", m.count(5), 5);
        dropAll(m);
        C.due("given back", m.alive(), 4);
        m = withInstance();
        Machines.code(m, 0, 0, 0x28, 0x50);
        m.send(1, 0);
        m.run(20);
        m.abort();
        C.due("class 3, stuck", m.count(3), 6);
        m.sweep();
        C.due("class 3", m.count(3), 0);
        C.due("the receiver", m.count(5), 1);
        C.due("its class", m.count(4), 2);
    }

    private static void sweptHoldersAreNotCounted() {
        C.sentence("stuck are then those that 6 or more hold (not what is given back by the sweep)");
        MessageMachine m = withInstance();
        m.make(2, 0);
        m.store(2, 0, 2);
        for (int k = 1; k < 6; k++) {
            m.store(2, k, 1);
        }
        C.due("a handle and five fields", m.count(5), 6);
        m.drop(2);
        C.due("the ring goes", m.sweep(), 1);
        C.due("a handle", m.count(5), 1);
        C.due("the class, too", m.count(4), 2);
    }

    private static void sweptNil() {
        C.sentence("stuck are then those that 6 or more hold (and no others): nil");
        MessageMachine m = nilHeldByFew();
        C.due("class 1 and the active register", m.count(0), 2);
        m.drop(3);
        C.due("a handle", m.count(0), 3);
        m.define(4, 3, 2);
        C.due("a superclass", m.count(0), 4);
        m.make(5, 4);
        C.due("two fields", m.count(0), 6);
        m.number(5, 1);
        C.due("stuck again", m.count(0), 6);
        m.sweep();
        C.due("no more", m.count(0), 4);
        C.due("always alive", m.classOf(0), 1);
    }
}
