/** The promises of the face, one by one: ordinary inputs, edges and wrong inputs. */
public final class PromiseTest {
    private static final Checks C = new Checks();
    private static final int BAD = MessageMachine.BAD;
    private static final int[] WRONG_HANDLES = {-1, 6, 7, 1000, Integer.MIN_VALUE, Integer.MAX_VALUE};
    private static final int[] WRONG_SELECTORS = {-1, 8, 9, Integer.MIN_VALUE, Integer.MAX_VALUE};
    private static final int[] WRONG_OBJECTS = {-1, 28, 29, 1000, 1005, Integer.MIN_VALUE, Integer.MAX_VALUE};

    public static void main(String[] args) {
        newObject();
        define();
        defineInARoomThatIsFull();
        method();
        methodOfARunningContext();
        make();
        number();
        move();
        drop();
        fetch();
        kind();
        store();
        inherit();
        send();
        sendArguments();
        run();
        abort();
        sweep();
        stateReasonActive();
        stack();
        handle();
        field();
        classOf();
        count();
        alive();
        lookup();
        C.end();
    }

    private static void newObject() {
        MessageMachine m = new MessageMachine();
        C.due("1 BAD", BAD, -1);
        C.due("1 alive", m.alive(), 4);
        C.due("1 state", m.state(), 0);
        C.due("1 reason", m.reason(), 0);
        C.due("1 active", m.active(), 0);
        for (int h = 0; h < 6; h++) {
            C.due("1 handle", m.handle(h), 0);
            for (int s = 0; s < 8; s++) {
                C.due("1 lookup", m.lookup(h, s), 0);
            }
        }
        int[] counts = {6, 6, 0, 0};
        int[] supers = {BAD, 0, 1, 1};
        for (int o = 0; o < 4; o++) {
            C.due("1 class of " + o, m.classOf(o), 1);
            C.due("1 count of " + o, m.count(o), counts[o]);
            C.due("1 field of " + o, m.field(o, 0), supers[o]);
            C.due("1 field 1 of " + o, m.field(o, 1), BAD);
        }
        C.due("1 object 4", m.classOf(4), BAD);
        C.due("1 sweep", m.sweep(), 0);
    }

    private static void define() {
        MessageMachine m = new MessageMachine();
        C.due("2 first", m.define(0, 1, 0), 4);
        C.due("2 handle", m.handle(0), 4);
        C.due("2 superclass nil", m.field(4, 0), 0);
        C.due("2 class", m.classOf(4), 1);
        C.due("2 one field", m.field(4, 1), BAD);
        C.due("2 second", m.define(5, 0, 6), 5);
        C.due("2 superclass", m.field(5, 0), 4);
        C.due("2 of itself", m.define(5, 5, 3), 6);
        C.due("2 superclass of the old one", m.field(6, 0), 5);
        C.due("2 handle named twice", m.handle(5), 6);
        C.due("2 size -1", m.define(1, 0, -1), BAD);
        C.due("2 size 7", m.define(1, 0, 7), BAD);
        for (int h : WRONG_HANDLES) {
            C.due("2 wrong handle", m.define(h, 0, 1), BAD);
            C.due("2 wrong superclass", m.define(0, h, 1), BAD);
        }
        m.number(2, 3);
        C.due("2 number above", m.define(1, 2, 1), BAD);
        m.make(2, 5);
        C.due("2 instance above", m.define(1, 2, 1), BAD);
        m.kind(2, 0);
        m.make(3, 2);
        C.due("2 an instance of class 1 is no class", m.define(1, 3, 1), BAD);
        C.due("2 refused: handle as before", m.handle(1), 0);
        C.due("2 refused: none more", m.alive(), 8);
        m.number(2, 1);
        m.kind(2, 2);
        C.due("2 below class 2", m.define(1, 2, 1), 8);
        C.due("2 its superclass", m.field(8, 0), 2);
    }

    /** A chain of classes, each held by the next one, takes all the room. */
    private static MessageMachine fullMachine() {
        MessageMachine m = new MessageMachine();
        for (int o = 4; o < 28; o++) {
            C.due("room", m.define(0, 0, 1), o);
        }
        return m;
    }

    private static void defineInARoomThatIsFull() {
        MessageMachine m = fullMachine();
        C.due("2 full", m.alive(), 28);
        C.due("2 no room", m.define(1, 0, 1), BAD);
        C.due("2 no room, though the handle's class would go", m.define(0, 1, 1), BAD);
        C.due("4 no room", m.make(1, 0), BAD);
        C.due("4 no room, though the handle's class would go", m.make(0, 0), BAD);
        C.due("2 no room: handle as before", m.handle(0), 27);
        Checks.code(m, 0, 0, 0xB1);
        m.number(1, 1);
        m.kind(1, 1);
        Checks.code(m, 1, 0, 0xB1);
        m.number(1, 1);
        C.no("12 no room", m.send(1, 0));
        C.due("12 no room: idle", m.state(), 0);
        m.drop(0);
        C.due("2 all given back", m.alive(), 4);
        C.yes("12 room again", m.send(1, 0));
        C.due("12 in the least place", m.active(), 4);
    }

    private static void method() {
        MessageMachine m = new MessageMachine();
        m.define(0, 1, 0);
        C.yes("3 method", m.method(0, 7, 0xB0_27L, 0));
        C.due("3 found", m.lookup(0, 7), 0);
        m.make(1, 0);
        C.due("3 found by instances", m.lookup(1, 7), 4);
        C.due("3 other selectors", m.lookup(1, 6), 0);
        C.yes("3 replaced", m.method(0, 7, 0xB0_26L, 0));
        m.send(1, 7);
        m.run(2);
        C.due("3 the newer one counts", m.handle(0), 1002);
        C.no("3 number", m.method(0, 1, 0, 0));
        C.no("3 instance", m.method(1, 1, 0, 0));
        C.no("3 nil", m.method(2, 1, 0, 0));
        m.kind(0, 1);
        for (int h : WRONG_HANDLES) {
            C.no("3 wrong handle", m.method(h, 0, 0, 0));
        }
        for (int s : WRONG_SELECTORS) {
            C.no("3 wrong selector", m.method(0, s, 0, 0));
        }
        // All sixteen bytes in their order: the lowest of low first, those of high behind them.
        Checks.code(m, 0, 0, 0x25, 0x27, 0x70, 0x25, 0x70, 0x25, 0x70, 0x27, 0x71, 0x26, 0x70, 0x27, 0x72, 0x24, 0x70, 0xB0);
        m.send(1, 0);
        C.due("3 sixteen bytes", m.run(500), 16);
        C.due("3 their result", m.handle(0), 1000 + 3 * (1 + 3 + 1 + 1 - 3 + 2));
        m.drop(0);
        m.drop(1);
        m.define(0, 1, 0);
        m.make(1, 0);
        C.due("3 a new class with an old number has none", m.lookup(1, 7), 0);
        m.number(2, 1);
        m.kind(2, 2);
        C.yes("3 class 2 too", m.method(2, 4, 0xB1, 0));
        m.number(3, -9);
        C.due("3 numbers have it", m.lookup(3, 4), 2);
        C.due("3 classes don't", m.lookup(2, 4), 0);
        m.kind(2, 2);
        C.yes("3 class 1 too", m.method(2, 5, 0xB1, 0));
        C.due("3 all have it", m.lookup(3, 5), 1);
        C.due("3 nil, too", m.lookup(4, 5), 1);
    }

    private static void methodOfARunningContext() {
        MessageMachine m = new MessageMachine();
        m.define(0, 1, 0);
        m.make(1, 0);
        Checks.code(m, 0, 0, 0x25, 0x25, 0xB0);
        m.send(1, 0);
        m.run(1);
        Checks.code(m, 0, 0, 0xF0, 0x27, 0x70, 0xB0);
        C.due("3 a context goes on in the new method", m.run(9), 3);
        C.due("3 its answer", m.handle(0), 1004);
    }

    private static void make() {
        MessageMachine m = new MessageMachine();
        m.define(0, 1, 6);
        C.due("4 make", m.make(1, 0), 5);
        C.due("4 handle", m.handle(1), 5);
        C.due("4 class", m.classOf(5), 4);
        for (int k = 0; k < 6; k++) {
            C.due("4 fields are nil", m.field(5, k), 0);
        }
        C.due("4 no more fields", m.field(5, 6), BAD);
        C.due("4 instance of no class", m.make(2, 1), BAD);
        C.due("4 instance of nil", m.make(2, 3), BAD);
        m.number(3, 4);
        C.due("4 instance of a number", m.make(2, 3), BAD);
        for (int h : WRONG_HANDLES) {
            C.due("4 wrong handle", m.make(h, 0), BAD);
            C.due("4 wrong class handle", m.make(0, h), BAD);
        }
        C.due("4 handle named twice", m.make(0, 0), 6);
        C.due("4 holds the instance", m.handle(0), 6);
        C.due("4 class of it", m.classOf(6), 4);
        m.kind(3, 3);
        C.due("4 instance of class 2", m.make(2, 3), 7);
        C.due("4 has no field", m.field(7, 0), BAD);
        C.due("4 its class", m.classOf(7), 2);
        m.kind(3, 3);
        C.due("4 instance of class 1, while the handle holds 7", m.make(2, 3), 8);
        C.due("4 has no field either", m.field(8, 0), BAD);
        C.no("4 is no class", m.method(2, 0, 0, 0));
        C.due("4 the old one is given back", m.alive(), 8);
    }

    private static void number() {
        MessageMachine m = new MessageMachine();
        C.yes("5 number", m.number(0, 7));
        C.due("5 told", m.handle(0), 1007);
        C.yes("5 least", m.number(5, -512));
        C.due("5 least told", m.handle(5), 488);
        C.yes("5 greatest", m.number(5, 511));
        C.due("5 greatest told", m.handle(5), 1511);
        C.no("5 below", m.number(5, -513));
        C.no("5 above", m.number(5, 512));
        C.no("5 far below", m.number(5, Integer.MIN_VALUE));
        C.no("5 far above", m.number(5, Integer.MAX_VALUE));
        for (int h : WRONG_HANDLES) {
            C.no("5 wrong handle", m.number(h, 1));
        }
        C.due("5 refused changes nothing", m.handle(5), 1511);
        m.define(0, 1, 0);
        m.number(0, 0);
        C.due("5 gives back what was held", m.alive(), 4);
    }

    private static void move() {
        MessageMachine m = new MessageMachine();
        m.define(0, 1, 0);
        C.yes("6 move", m.move(3, 0));
        C.due("6 moved", m.handle(3), 4);
        C.due("6 both hold", m.handle(0), 4);
        C.yes("6 onto itself", m.move(3, 3));
        C.due("6 is there still", m.handle(3), 4);
        C.due("6 counted", m.count(4), 2);
        C.yes("6 nil", m.move(3, 1));
        C.yes("6 nil too", m.move(0, 1));
        C.due("6 given back", m.alive(), 4);
        m.number(2, 8);
        C.yes("6 number", m.move(1, 2));
        C.due("6 number moved", m.handle(1), 1008);
        for (int h : WRONG_HANDLES) {
            C.no("6 wrong handle", m.move(h, 0));
            C.no("6 wrong source", m.move(0, h));
        }
        C.due("6 refused changes nothing", m.handle(0), 0);
    }

    private static void drop() {
        MessageMachine m = new MessageMachine();
        m.define(0, 1, 0);
        m.define(1, 0, 0);
        C.yes("7 drop", m.drop(0));
        C.due("7 nil", m.handle(0), 0);
        C.due("7 held by the one below", m.alive(), 6);
        C.yes("7 nil once more", m.drop(0));
        C.yes("7 the other", m.drop(1));
        C.due("7 both go", m.alive(), 4);
        for (int h : WRONG_HANDLES) {
            C.no("7 wrong handle", m.drop(h));
        }
    }

    private static void fetch() {
        MessageMachine m = new MessageMachine();
        m.define(0, 5, 2);
        m.make(1, 0);
        m.number(2, 9);
        m.store(1, 1, 2);
        C.yes("8 fetch", m.fetch(3, 1, 1));
        C.due("8 fetched", m.handle(3), 1009);
        C.yes("8 nil", m.fetch(3, 1, 0));
        C.due("8 fetched nil", m.handle(3), 0);
        C.no("8 field 2", m.fetch(3, 1, 2));
        C.no("8 field -1", m.fetch(3, 1, -1));
        C.no("8 far field", m.fetch(3, 1, Integer.MAX_VALUE));
        C.no("8 number", m.fetch(3, 2, 0));
        C.no("8 nil has none", m.fetch(3, 5, 0));
        m.define(3, 0, 4);
        C.yes("8 superclass", m.fetch(4, 3, 0));
        C.due("8 is there", m.handle(4), 4);
        C.no("8 a class has one field", m.fetch(4, 3, 1));
        for (int h : WRONG_HANDLES) {
            C.no("8 wrong handle", m.fetch(h, 1, 0));
            C.no("8 wrong source", m.fetch(0, h, 0));
        }
        C.yes("8 named twice", m.fetch(1, 1, 1));
        C.due("8 holds the field", m.handle(1), 1009);
        C.due("8 the object goes", m.classOf(5), BAD);
    }

    private static void kind() {
        MessageMachine m = new MessageMachine();
        C.yes("9 of nil", m.kind(0, 1));
        C.due("9 is 1", m.handle(0), 1);
        m.define(1, 5, 0);
        m.make(2, 1);
        C.yes("9 of an instance", m.kind(3, 2));
        C.due("9 is its class", m.handle(3), 4);
        C.yes("9 of a class", m.kind(3, 3));
        C.due("9 is 1 too", m.handle(3), 1);
        m.number(3, -512);
        C.yes("9 of a number", m.kind(3, 3));
        C.due("9 is 2", m.handle(3), 2);
        for (int h : WRONG_HANDLES) {
            C.no("9 wrong handle", m.kind(h, 0));
            C.no("9 wrong source", m.kind(0, h));
        }
    }

    private static void store() {
        MessageMachine m = new MessageMachine();
        m.define(0, 5, 2);
        m.make(1, 0);
        m.make(2, 0);
        C.yes("10 store", m.store(1, 1, 2));
        C.due("10 stored", m.field(5, 1), 6);
        C.due("10 the other is nil", m.field(5, 0), 0);
        m.drop(2);
        C.due("10 holds", m.count(6), 1);
        C.yes("10 another word", m.store(1, 1, 5));
        C.due("10 given back", m.alive(), 6);
        C.no("10 field 2", m.store(1, 2, 5));
        C.no("10 field -1", m.store(1, -1, 5));
        C.no("10 class", m.store(0, 0, 5));
        C.no("10 nil", m.store(5, 0, 5));
        m.number(3, 3);
        C.no("10 number", m.store(3, 0, 5));
        C.yes("10 number stored", m.store(1, 0, 3));
        C.due("10 number told", m.field(5, 0), 1003);
        for (int h : WRONG_HANDLES) {
            C.no("10 wrong handle", m.store(h, 0, 1));
            C.no("10 wrong source", m.store(1, 0, h));
        }
        C.yes("10 itself", m.store(1, 0, 1));
        C.due("10 counted", m.count(5), 2);
        m.drop(1);
        C.due("10 a ring stays", m.alive(), 6);
    }

    private static void inherit() {
        MessageMachine m = new MessageMachine();
        m.define(0, 5, 0);
        m.define(1, 5, 0);
        m.define(2, 1, 0);
        C.yes("11 inherit", m.inherit(1, 0));
        C.due("11 superclass", m.field(5, 0), 4);
        C.no("11 ring of three", m.inherit(0, 2));
        C.no("11 ring of two", m.inherit(0, 1));
        C.no("11 itself", m.inherit(0, 0));
        C.due("11 refused changes nothing", m.field(4, 0), 0);
        C.yes("11 the same once more", m.inherit(1, 0));
        C.yes("11 one above", m.inherit(2, 0));
        C.yes("11 now no ring", m.inherit(1, 2));
        C.no("11 but here", m.inherit(2, 1));
        C.yes("11 nil", m.inherit(1, 5));
        C.due("11 nil told", m.field(5, 0), 0);
        m.number(3, 1);
        C.no("11 number", m.inherit(1, 3));
        C.no("11 of a number", m.inherit(3, 1));
        C.no("11 of nil", m.inherit(5, 1));
        m.kind(4, 3);
        C.no("11 of class 2", m.inherit(4, 0));
        C.no("11 of class 2, nil", m.inherit(4, 5));
        C.yes("11 class 2 above", m.inherit(1, 4));
        m.kind(4, 4);
        C.no("11 of class 1", m.inherit(4, 5));
        C.yes("11 class 1 above", m.inherit(1, 4));
        m.make(3, 1);
        C.no("11 instance above", m.inherit(1, 3));
        C.no("11 of an instance", m.inherit(3, 1));
        for (int h : WRONG_HANDLES) {
            C.no("11 wrong handle", m.inherit(h, 0));
            C.no("11 wrong superclass", m.inherit(0, h));
        }
        m.inherit(2, 5);
        m.drop(0);
        C.due("11 the old superclass is not held", m.classOf(4), BAD);
    }

    private static void send() {
        MessageMachine m = new MessageMachine();
        m.define(0, 5, 1);
        m.define(1, 0, 2);
        Checks.code(m, 0, 0, 0x28, 0xB0);
        m.make(2, 1);
        for (int h : WRONG_HANDLES) {
            C.no("12 wrong handle", m.send(h, 0));
        }
        for (int s : WRONG_SELECTORS) {
            C.no("12 wrong selector", m.send(2, s));
        }
        C.no("12 no method", m.send(2, 1));
        C.no("12 none for nil", m.send(5, 0));
        C.no("12 none for classes", m.send(0, 0));
        C.due("12 refused: idle", m.state(), 0);
        C.yes("12 send", m.send(2, 0));
        C.due("12 active", m.active(), 7);
        int[] due = {0, 6, 4, 1000, 1000, 0, 0, 0, 0, 0, 0, 0, 0, 0, 0, BAD};
        for (int k = 0; k < due.length; k++) {
            C.due("12 context field " + k, m.field(7, k), due[k]);
        }
        C.due("12 class", m.classOf(7), 3);
        C.due("12 stack", m.stack(7), 0);
        C.due("12 held by the register", m.count(7), 1);
        C.due("12 receiver held twice", m.count(6), 2);
        C.no("12 while running", m.send(2, 0));
        C.due("12 run", m.run(9), 2);
        C.due("12 answer in handle 0", m.handle(0), 6);
        C.yes("12 once more", m.send(2, 0));
        m.run(1);
        Checks.code(m, 1, 0, 0xF0);
        m.fetch(3, 1, 0);
        Checks.code(m, 3, 0, 0xF0, 0xF0);
        m.run(1);
        C.due("12 halted", m.state(), 2);
        C.no("12 while halted", m.send(2, 0));
        m.abort();
        C.yes("12 behind abort", m.send(2, 0));
        C.due("12 found in the class below", m.field(m.active(), 2), 5);
    }

    private static void sendArguments() {
        for (int h = 0; h < 6; h++) {
            for (int s = 0; s < 8; s++) {
                MessageMachine m = new MessageMachine();
                m.kind(0, 0);
                Checks.code(m, 0, s, 0xB1);
                for (int i = 0; i < 6; i++) {
                    m.number(i, i);
                }
                C.yes("12 send to a number", m.send(h, s));
                int c = m.active();
                C.due("12 receiver", m.field(c, 1), 1000 + h);
                C.due("12 found in", m.field(c, 2), 1);
                C.due("12 selector", m.field(c, 3), 1000 + s);
                C.due("12 place", m.field(c, 4), 1000);
                for (int i = 0; i < 4; i++) {
                    C.due("12 argument " + i, m.field(c, 5 + i), i < s % 3 ? 1000 + (h + 1 + i) % 6 : 0);
                }
            }
        }
    }

    private static void run() {
        MessageMachine m = new MessageMachine();
        C.due("13 idle", m.run(5), 0);
        C.due("13 idle, 501", m.run(501), BAD);
        m.define(0, 5, 0);
        m.make(1, 0);
        Checks.code(m, 0, 0, 0xA0);
        m.send(1, 0);
        C.due("13 none", m.run(0), 0);
        C.due("13 place", m.field(6, 4), 1000);
        C.due("13 -1", m.run(-1), BAD);
        C.due("13 501", m.run(501), BAD);
        C.due("13 least", m.run(Integer.MIN_VALUE), BAD);
        C.due("13 greatest", m.run(Integer.MAX_VALUE), BAD);
        C.due("13 a ring of one byte", m.run(500), 500);
        C.due("13 runs still", m.state(), 1);
        Checks.code(m, 0, 0, 0x25, 0x26, 0xF0);
        C.due("13 one that fails isn't done", m.run(10), 2);
        C.due("13 halted", m.run(10), 0);
        C.due("13 halted, -1", m.run(-1), BAD);
        Checks.code(m, 0, 0, 0x25, 0x26, 0xB0);
        C.due("13 a new method doesn't end it", m.run(10), 0);
        m.abort();
        m.send(1, 0);
        C.due("13 to the end", m.run(3), 3);
        C.due("13 idle at the end", m.state(), 0);
        C.due("13 answer", m.handle(0), 1002);
    }

    private static void abort() {
        MessageMachine m = new MessageMachine();
        C.no("14 idle", m.abort());
        m.define(0, 5, 0);
        m.make(1, 0);
        Checks.code(m, 0, 0, 0x28, 0x50);
        m.send(1, 0);
        m.run(4);
        C.due("14 three contexts", m.alive(), 9);
        C.yes("14 running", m.abort());
        C.due("14 idle now", m.state(), 0);
        C.due("14 no active one", m.active(), 0);
        C.due("14 all contexts go", m.alive(), 6);
        C.due("14 handle 0 as before", m.handle(0), 4);
        C.no("14 once more", m.abort());
        Checks.code(m, 0, 0, 0xF0);
        m.send(1, 0);
        m.run(1);
        C.due("14 reason", m.reason(), 3);
        C.yes("14 halted", m.abort());
        C.due("14 reason is 0", m.reason(), 0);
        C.due("14 state is 0", m.state(), 0);
        m.send(1, 0);
        C.due("14 runs anew", m.state(), 1);
    }

    private static void sweep() {
        MessageMachine m = new MessageMachine();
        m.define(0, 5, 1);
        m.make(1, 0);
        m.make(2, 0);
        m.store(1, 0, 2);
        m.store(2, 0, 1);
        C.due("15 all reached", m.sweep(), 0);
        m.drop(1);
        C.due("15 reached by one", m.sweep(), 0);
        m.drop(2);
        m.drop(0);
        C.due("15 a ring holds its class", m.alive(), 7);
        C.due("15 its count", m.count(4), 2);
        C.due("15 three", m.sweep(), 3);
        C.due("15 gone", m.alive(), 4);
        C.due("15 gone too", m.field(5, 0), BAD);
        C.due("15 none more", m.sweep(), 0);
        C.due("15 the least number again", m.define(0, 5, 0), 4);
        m.make(1, 0);
        Checks.code(m, 0, 0, 0x20, 0x28, 0x50);
        m.send(1, 0);
        m.run(9);
        m.drop(0);
        m.drop(1);
        C.due("15 the active context and its senders stay", m.sweep(), 0);
        C.due("15 them all", m.alive(), 10);
        C.due("15 it runs on", m.run(2), 2);
    }

    private static void stateReasonActive() {
        MessageMachine m = new MessageMachine();
        m.define(0, 5, 0);
        m.make(1, 0);
        Checks.code(m, 0, 0, 0x28, 0x53, 0xB0);
        Checks.code(m, 0, 3, 0xB1);
        m.send(1, 0);
        C.due("16 running", m.state(), 1);
        C.due("17 none", m.reason(), 0);
        C.due("18 first", m.active(), 6);
        m.run(2);
        C.due("18 second", m.active(), 7);
        m.run(1);
        C.due("18 back", m.active(), 6);
        m.run(1);
        C.due("16 idle", m.state(), 0);
        C.due("18 none", m.active(), 0);
        m.define(0, 5, 0);
        m.make(1, 0);
        Checks.code(m, 0, 0, 0xD1);
        m.send(1, 0);
        m.run(1);
        C.due("16 halted", m.state(), 2);
        C.due("17 by 1", m.reason(), 1);
        C.yes("18 stays active", m.active() != 0);
    }

    private static void stack() {
        MessageMachine m = new MessageMachine();
        m.define(0, 5, 0);
        m.make(1, 0);
        Checks.code(m, 0, 0, 0x20, 0x21, 0x22, 0x23, 0x24, 0x25, 0xD1, 0xD1);
        m.send(1, 0);
        int[] due = {0, 1, 2, 3, 4, 5, 6, 5, 4};
        for (int i = 0; i < due.length; i++) {
            C.due("19 after " + i, m.stack(6), due[i]);
            m.run(1);
        }
        for (int o = 0; o < 6; o++) {
            C.due("19 no context", m.stack(o), BAD);
        }
        C.due("19 not alive", m.stack(7), BAD);
        for (int o : WRONG_OBJECTS) {
            C.due("19 no object", m.stack(o), BAD);
        }
        m.abort();
        C.due("19 not alive any more", m.stack(6), BAD);
        m.send(1, 0);
        C.due("19 a new one's is empty", m.stack(6), 0);
    }

    private static void handle() {
        MessageMachine m = new MessageMachine();
        for (int h = 0; h < 6; h++) {
            m.number(h, h * 10);
        }
        for (int h = 0; h < 6; h++) {
            C.due("20 handle", m.handle(h), 1000 + h * 10);
        }
        for (int h : WRONG_HANDLES) {
            C.due("20 wrong handle", m.handle(h), BAD);
        }
    }

    private static void field() {
        MessageMachine m = new MessageMachine();
        m.define(0, 5, 3);
        m.make(1, 0);
        m.number(2, -1);
        m.store(1, 2, 2);
        C.due("21 number", m.field(5, 2), 999);
        C.due("21 nil", m.field(5, 1), 0);
        C.due("21 field 3", m.field(5, 3), BAD);
        C.due("21 field -1", m.field(5, -1), BAD);
        C.due("21 field of nil", m.field(0, 0), BAD);
        C.due("21 not alive", m.field(6, 0), BAD);
        for (int o : WRONG_OBJECTS) {
            C.due("21 no object", m.field(o, 0), BAD);
        }
        m.drop(1);
        C.due("21 not alive any more", m.field(5, 2), BAD);
        m.make(1, 0);
        C.due("21 nil anew", m.field(5, 2), 0);
    }

    private static void classOf() {
        MessageMachine m = new MessageMachine();
        m.define(0, 5, 0);
        m.make(1, 0);
        C.due("22 class", m.classOf(4), 1);
        C.due("22 instance", m.classOf(5), 4);
        C.due("22 not alive", m.classOf(6), BAD);
        for (int o : WRONG_OBJECTS) {
            C.due("22 no object", m.classOf(o), BAD);
        }
        m.drop(1);
        C.due("22 not alive any more", m.classOf(5), BAD);
    }

    private static void count() {
        MessageMachine m = new MessageMachine();
        m.define(0, 5, 6);
        C.due("23 by a handle", m.count(4), 1);
        m.make(1, 0);
        C.due("23 by an instance too", m.count(4), 2);
        m.define(2, 0, 0);
        C.due("23 by a class below", m.count(4), 3);
        for (int k = 0; k < 4; k++) {
            C.due("23 by fields", m.count(5), 1 + k);
            m.store(1, k, 1);
        }
        C.due("23 five", m.count(5), 5);
        m.store(1, 4, 5);
        C.due("23 five still", m.count(5), 5);
        C.due("23 not alive", m.count(7), BAD);
        for (int o : WRONG_OBJECTS) {
            C.due("23 no object", m.count(o), BAD);
        }
        m.number(3, 2);
        m.kind(3, 3);
        C.due("23 class 2 by a handle", m.count(2), 1);
        m.drop(3);
        C.due("23 class 2 by none", m.count(2), 0);
        C.due("23 class 2 stays", m.classOf(2), 1);
    }

    private static void alive() {
        MessageMachine m = new MessageMachine();
        m.define(0, 5, 0);
        C.due("24 a class", m.alive(), 5);
        m.make(1, 0);
        C.due("24 an instance", m.alive(), 6);
        Checks.code(m, 0, 0, 0xB1);
        m.send(1, 0);
        C.due("24 a context", m.alive(), 7);
        m.run(1);
        C.due("24 returned", m.alive(), 6);
        m.drop(0);
        m.drop(1);
        C.due("24 none", m.alive(), 4);
    }

    private static void lookup() {
        MessageMachine m = new MessageMachine();
        m.define(0, 5, 0);
        m.define(1, 0, 0);
        m.define(2, 1, 0);
        m.make(3, 2);
        Checks.code(m, 0, 0, 0xB1);
        Checks.code(m, 0, 7, 0xB1);
        Checks.code(m, 1, 7, 0xB1);
        C.due("25 two above", m.lookup(3, 0), 4);
        C.due("25 the first", m.lookup(3, 7), 5);
        C.due("25 none", m.lookup(3, 1), 0);
        C.due("25 classes are of class 1", m.lookup(2, 7), 0);
        m.inherit(2, 5);
        C.due("25 another superclass", m.lookup(3, 7), 0);
        for (int h : WRONG_HANDLES) {
            C.due("25 wrong handle", m.lookup(h, 0), BAD);
        }
        for (int s : WRONG_SELECTORS) {
            C.due("25 wrong selector", m.lookup(3, s), BAD);
        }
        m.kind(4, 2);
        Checks.code(m, 4, 1, 0xB1);
        C.due("25 class 1", m.lookup(2, 1), 1);
        C.due("25 nil", m.lookup(5, 1), 1);
        C.due("25 not above 2 now", m.lookup(3, 1), 0);
        m.number(5, 1);
        C.due("25 number", m.lookup(5, 1), 1);
    }
}
