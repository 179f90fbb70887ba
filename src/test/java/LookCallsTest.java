import java.util.function.Supplier;

/** Promises 19 to 25: the calls that tell of objects, handles and methods, and change nothing. */
public final class LookCallsTest {
    private static final Checks C = new Checks();
    private static final int BAD = MessageMachine.BAD;

    public static void main(String[] args) {
        stack();
        stackOfNoContext();
        handle();
        noSuchHandle();
        field();
        fieldOfOneNotAlive();
        noSuchField();
        classOf();
        classOfOneNotAlive();
        countStuck();
        countFromTheBeginning();
        countHolders();
        countOfOneNotAlive();
        alive();
        lookup();
        lookupNone();
        lookupBad();
        lookingChangesNothing();
        C.end();
    }

    private static void stack() {
        C.sentence("How many words the stack of a context has");
        MessageMachine m = Machines.idle();
        Machines.code(m, 0, 6, 0x20, 0x21, 0x22, 0x23, 0x24, 0x25, 0xD1, 0xD1, 0xD1, 0xD1, 0xD1, 0xD1);
        m.send(2, 6);
        for (int i = 0; i <= 12; i++) {
            C.due("behind " + i + " bytes", m.stack(8), i <= 6 ? i : 12 - i);
            m.run(1);
        }
        m = Machines.running();
        C.due("a context that is not active", m.stack(8), 1);
        C.due("one that is", m.stack(9), 2);
        C.due("one that is halted", Machines.halted().stack(8), 2);
        m.abort();
        m.send(2, 0);
        C.due("a new one with the same number", m.stack(8), 0);
    }

    private static void stackOfNoContext() {
        C.sentence("BAD when o isn't one (stack)");
        for (int o = 0; o < 8; o++) {
            int object = o;
            C.bad("object " + o, Machines::running, m -> m.stack(object));
        }
        C.bad("one not alive", Machines::running, m -> m.stack(10));
        MessageMachine m = Machines.running();
        m.abort();
        C.due("one not alive any more", m.stack(9), BAD);
        for (int o : Machines.WRONG_OBJECTS) {
            C.badEverywhere("object " + o, x -> x.stack(o));
        }
    }

    private static void handle() {
        C.sentence("What handle h holds");
        int[] due = {4, 5, 6, 1007, 7, 0};
        MessageMachine m = Machines.idle();
        for (int h = 0; h < 6; h++) {
            C.due("handle " + h, m.handle(h), due[h]);
        }
    }

    private static void noSuchHandle() {
        C.sentence("BAD when there is none such (handle)");
        for (int h : Machines.WRONG_HANDLES) {
            C.badEverywhere("handle " + h, m -> m.handle(h));
        }
    }

    private static void field() {
        C.sentence("The word in field k of an object");
        MessageMachine m = Machines.running();
        C.due("an object", m.field(6, 0), 6);
        C.due("a number", m.field(6, 1), 1007);
        C.due("nil", m.field(6, 2), 0);
        C.due("a superclass", m.field(5, 0), 4);
        C.due("the superclass of class 3", m.field(3, 0), 1);
        C.due("of a context", m.field(9, 0), 8);
    }

    private static void fieldOfOneNotAlive() {
        C.sentence("BAD when it isn't alive (field)");
        C.bad("object 8", Machines::idle, m -> m.field(8, 0));
        for (int o : Machines.WRONG_OBJECTS) {
            C.badEverywhere("object " + o, m -> m.field(o, 0));
        }
        MessageMachine m = new MessageMachine();
        m.define(0, 5, 1);
        m.make(1, 0);
        m.number(2, 3);
        m.store(1, 0, 2);
        m.drop(1);
        C.due("one not alive any more", m.field(5, 0), BAD);
        m.make(1, 0);
        C.due("a new one with the same number", m.field(5, 0), 0);
    }

    private static void noSuchField() {
        C.sentence("BAD when it has no such field");
        int[] fields = {0, 1, 1, 1, 1, 1, 3, 0, 15, 15};
        for (int o = 0; o < fields.length; o++) {
            MessageMachine m = Machines.running();
            for (int k = 0; k < fields[o]; k++) {
                C.yes("field " + k + " of " + o, m.field(o, k) != BAD);
            }
            for (int k : new int[] {-1, fields[o], fields[o] + 1, Integer.MIN_VALUE, Integer.MAX_VALUE}) {
                C.due("field " + k + " of " + o, m.field(o, k), BAD);
            }
        }
        C.bad("field 3 of three", Machines::idle, m -> m.field(6, 3));
        C.bad("field -1", Machines::idle, m -> m.field(6, -1));
        C.bad("field 15 of a context", Machines::running, m -> m.field(9, 15));
    }

    private static void classOf() {
        C.sentence("The class of an object");
        int[] due = {1, 1, 1, 1, 1, 1, 5, 1, 3, 3};
        MessageMachine m = Machines.running();
        for (int o = 0; o < due.length; o++) {
            C.due("object " + o, m.classOf(o), due[o]);
        }
    }

    private static void classOfOneNotAlive() {
        C.sentence("BAD when it isn't alive (classOf)");
        C.bad("object 8", Machines::idle, m -> m.classOf(8));
        C.bad("object 27", Machines::idle, m -> m.classOf(27));
        for (int o : Machines.WRONG_OBJECTS) {
            C.badEverywhere("object " + o, m -> m.classOf(o));
        }
        MessageMachine m = Machines.idle();
        m.drop(4);
        C.due("one not alive any more", m.classOf(7), BAD);
    }

    private static void countStuck() {
        C.sentence("6 when an object is stuck");
        MessageMachine m = new MessageMachine();
        m.define(0, 5, 6);
        m.make(1, 0);
        for (int k = 0; k < 6; k++) {
            m.store(1, k, 1);
        }
        C.due("seven hold it", m.count(5), 6);
        for (int k = 0; k < 6; k++) {
            m.store(1, k, 4);
            C.due("less do", m.count(5), 6);
        }
        m.drop(1);
        C.due("none does", m.count(5), 6);
    }

    private static void countFromTheBeginning() {
        C.sentence("(0 is from the beginning)");
        MessageMachine m = new MessageMachine();
        C.due("0", m.count(0), 6);
        for (int h = 0; h < 6; h++) {
            m.number(h, h);
            C.due("0, held by less", m.count(0), 6);
        }
    }

    private static void countHolders() {
        C.sentence("else how many hold it (count)");
        int[] due = {6, 6, 0, 2, 4, 2, 5, 1, 1, 1};
        MessageMachine m = Machines.running();
        for (int o = 0; o < due.length; o++) {
            C.due("object " + o, m.count(o), due[o]);
        }
        C.due("class 2, by nothing", new MessageMachine().count(2), 0);
        C.due("class 3, by nothing", new MessageMachine().count(3), 0);
    }

    private static void countOfOneNotAlive() {
        C.sentence("BAD when it isn't alive (count)");
        C.bad("object 8", Machines::idle, m -> m.count(8));
        C.bad("object 27", Machines::idle, m -> m.count(27));
        for (int o : Machines.WRONG_OBJECTS) {
            C.badEverywhere("object " + o, m -> m.count(o));
        }
        MessageMachine m = Machines.idle();
        m.drop(4);
        C.due("one not alive any more", m.count(7), BAD);
    }

    private static void alive() {
        C.sentence("How many objects are alive");
        C.due("new", new MessageMachine().alive(), 4);
        C.due("idle", Machines.idle().alive(), 8);
        C.due("running", Machines.running().alive(), 10);
        C.due("full", Machines.full().alive(), 28);
        MessageMachine m = Machines.running();
        m.run(500);
        C.due("returned", m.alive(), 8);
    }

    private static void lookup() {
        C.sentence("The class in which a selector is found that is sent to what handle h holds");
        MessageMachine m = Machines.idle();
        C.due("in the superclass", m.lookup(2, 0), 4);
        C.due("in its class", m.lookup(2, 3), 5);
        Machines.code(m, 1, 0, 0xB1);
        C.due("in its class now", m.lookup(2, 0), 5);
        m.kind(4, 3);
        Machines.code(m, 4, 7, 0xB1);
        C.due("a number's", m.lookup(3, 7), 2);
        C.due("while running", Machines.running().lookup(2, 0), 4);
    }

    private static void lookupNone() {
        C.sentence("0 when there is none (lookup)");
        MessageMachine m = Machines.idle();
        for (int s : new int[] {1, 2, 5, 6, 7}) {
            C.due("selector " + s, m.lookup(2, s), 0);
        }
        for (int h : new int[] {0, 1, 3, 4, 5}) {
            C.due("handle " + h, m.lookup(h, 0), 0);
        }
        m.inherit(1, 5);
        C.due("not with another superclass", m.lookup(2, 0), 0);
    }

    private static void lookupBad() {
        C.sentence("BAD when there is no such handle or selector (lookup)");
        for (int h : Machines.WRONG_HANDLES) {
            C.badEverywhere("handle " + h, m -> m.lookup(h, 0));
        }
        for (int s : Machines.WRONG_SELECTORS) {
            C.badEverywhere("selector " + s, m -> m.lookup(2, s));
        }
    }

    private static void lookingChangesNothing() {
        C.sentence("Nothing is promised beyond the answers and state changes described above");
        for (Supplier<MessageMachine> made : Machines.ALL) {
            C.changesNothing("looking", made, LookCallsTest::lookAtAll);
        }
    }

    private static void lookAtAll(MessageMachine m) {
        for (int o = 0; o < 28; o++) {
            m.stack(o);
            m.field(o, 0);
            m.classOf(o);
            m.count(o);
        }
        for (int h = 0; h < 6; h++) {
            m.handle(h);
            m.lookup(h, h);
        }
        m.alive();
    }
}
