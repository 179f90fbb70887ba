/** Promises 1 to 11: a new object, and the calls that make, hold and change objects. */
public final class ObjectCallsTest {
    private static final Checks C = new Checks();
    private static final int BAD = MessageMachine.BAD;

    public static void main(String[] args) {
        constant();
        newObject();
        define();
        defineBelow();
        defineWithoutHandle();
        defineNoSuperclass();
        defineSize();
        defineNoRoom();
        method();
        methodInstead();
        methodBytes();
        methodWithoutHandleOrSelector();
        methodOfNoClass();
        methodsOfANewClass();
        make();
        makeWithoutHandle();
        makeOfNoClass();
        makeNoRoom();
        number();
        numberNoneSuch();
        move();
        moveNoneSuch();
        drop();
        dropNoneSuch();
        fetch();
        fetchNoSuchField();
        fetchOfANumber();
        fetchWithoutHandle();
        kind();
        kindNoneSuch();
        store();
        storeAsForFetch();
        storeIntoAClass();
        inherit();
        inheritOfTheFirst();
        inheritNoneSuch();
        inheritFromNoClass();
        inheritItself();
        inheritFromOneBelow();
        C.end();
    }

    private static void constant() {
        C.sentence("public static final int BAD = -1");
        C.due("BAD", BAD, -1);
    }

    private static void newObject() {
        C.sentence("Objects 0 .. 3 alone; idle");
        MessageMachine m = new MessageMachine();
        C.due("alive", m.alive(), 4);
        C.due("state", m.state(), 0);
        C.due("reason", m.reason(), 0);
        C.due("active", m.active(), 0);
        for (int o = 0; o < 28; o++) {
            C.due("class of " + o, m.classOf(o), o < 4 ? 1 : BAD);
            C.due("stack of " + o, m.stack(o), BAD);
        }
        for (int s = 0; s < 8; s++) {
            C.due("no method yet for " + s, m.lookup(0, s), 0);
        }
        C.due("nothing to be swept", m.sweep(), 0);
    }

    private static void define() {
        C.sentence("Handle h holds a new class with the superclass that handle s holds (a class, or nil). Answers its number");
        MessageMachine m = new MessageMachine();
        C.due("with nil", m.define(0, 1, 0), 4);
        C.due("handle 0", m.handle(0), 4);
        C.due("superclass nil", m.field(4, 0), 0);
        C.due("with a class", m.define(5, 0, 6), 5);
        C.due("handle 5", m.handle(5), 5);
        C.due("superclass", m.field(5, 0), 4);
        C.due("class", m.classOf(5), 1);
        C.due("instead of another", m.define(0, 1, 1), 6);
        C.due("which its own subclass holds", m.classOf(4), 1);
    }

    private static void defineBelow() {
        C.sentence("the superclass that handle s holds (a class, or nil): class 1 and 2");
        MessageMachine m = new MessageMachine();
        m.kind(1, 5);
        C.due("below 1", m.define(0, 1, 2), 4);
        C.due("superclass", m.field(4, 0), 1);
        m.number(1, 0);
        m.kind(1, 1);
        C.due("below 2", m.define(0, 1, 2), 5);
        C.due("superclass", m.field(5, 0), 2);
        C.due("the one before is given back", m.classOf(4), BAD);
    }

    private static void defineWithoutHandle() {
        C.sentence("BAD when a handle isn't one (define)");
        for (int h : Machines.WRONG_HANDLES) {
            C.badEverywhere("h " + h, m -> m.define(h, 5, 1));
            C.badEverywhere("s " + h, m -> m.define(5, h, 1));
            C.badEverywhere("both " + h, m -> m.define(h, h, 1));
        }
    }

    private static void defineNoSuperclass() {
        C.sentence("BAD when s holds neither (define)");
        C.bad("a number", Machines::idle, m -> m.define(5, 3, 1));
        C.bad("an instance", Machines::idle, m -> m.define(5, 2, 1));
        C.bad("an instance of class 1", Machines::idle, m -> m.define(5, 4, 1));
        C.bad("a number, when running", Machines::running, m -> m.define(5, 3, 1));
        C.bad("an instance, when halted", Machines::halted, m -> m.define(5, 2, 1));
    }

    private static void defineSize() {
        C.sentence("BAD when size is not 0 .. 6 (define)");
        C.due("0", new MessageMachine().define(0, 1, 0), 4);
        C.due("6", new MessageMachine().define(0, 1, 6), 4);
        for (int size : new int[] {-1, 7, 8, Integer.MIN_VALUE, Integer.MAX_VALUE}) {
            C.badEverywhere("size " + size, m -> m.define(0, 5, size));
        }
    }

    private static void defineNoRoom() {
        C.sentence("BAD when there is no room (define)");
        C.bad("all are alive", Machines::full, m -> m.define(5, 0, 1));
        C.bad("though the handle's own would not be held any more", Machines::full, m -> m.define(1, 0, 1));
        C.bad("nor by itself", Machines::full, m -> m.define(1, 1, 1));
        MessageMachine m = Machines.full();
        m.fetch(1, 1, 0);
        C.due("one place", m.alive(), 27);
        C.due("is room", m.define(5, 5, 1), 27);
    }

    private static void method() {
        C.sentence("The class that handle c holds gets a method for a selector");
        MessageMachine m = Machines.idle();
        C.yes("method", m.method(1, 7, 0xB1, 0));
        C.due("its instances have it", m.lookup(2, 7), 5);
        m.make(5, 0);
        C.due("those of the class above don't", m.lookup(5, 7), 0);
        C.due("the class itself doesn't", m.lookup(1, 7), 0);
        C.yes("when running", Machines.running().method(1, 7, 0xB1, 0));
        C.yes("when halted", Machines.halted().method(1, 7, 0xB1, 0));
        C.yes("when there is no room", Machines.full().method(1, 7, 0xB1, 0));
    }

    private static void methodInstead() {
        C.sentence("instead of any that it has");
        MessageMachine m = Machines.idle();
        for (int v = 4; v < 8; v++) {
            Machines.code(m, 0, 7, 0x20 + v, 0xB0);
            m.send(2, 7);
            m.run(2);
            C.due("the newest counts", m.handle(0), 996 + v);
            m.fetch(0, 1, 0);
        }
        Machines.code(m, 1, 7, 0x20, 0xB0);
        m.make(5, 0);
        m.send(5, 7);
        m.run(2);
        C.due("the superclass keeps its own", m.handle(0), 1003);
    }

    private static void methodBytes() {
        C.sentence("the bytes of low from the lowest on, then those of high");
        for (int place = 0; place < 16; place++) {
            // Every byte but one goes on without a change, also where it makes a long negative.
            int[] bytes = new int[16];
            java.util.Arrays.fill(bytes, 0x80);
            bytes[place] = 0xB1;
            MessageMachine m = Machines.idle();
            m.method(0, 7, Machines.half(bytes, 0), Machines.half(bytes, 8));
            m.send(2, 7);
            C.due("bytes done up to place " + place, m.run(500), place + 1);
            C.due("answer", m.handle(0), 6);
        }
        MessageMachine m = Machines.idle();
        m.method(0, 7, -1, -1);
        m.send(2, 7);
        m.run(1);
        C.due("all bits", m.reason(), 3);
        m = Machines.idle();
        m.method(0, 7, Long.MIN_VALUE, 0xB1);
        m.send(2, 7);
        C.due("six temporaries and no more", m.run(500), 6);
        C.due("then the stack is full", m.reason(), 1);
    }

    private static void methodWithoutHandleOrSelector() {
        C.sentence("False when there is no such handle or selector (method)");
        for (int h : Machines.WRONG_HANDLES) {
            C.refusedEverywhere("handle " + h, m -> m.method(h, 0, 0xB1, 0));
        }
        for (int s : Machines.WRONG_SELECTORS) {
            C.refusedEverywhere("selector " + s, m -> m.method(1, s, 0xB1, 0));
        }
    }

    private static void methodOfNoClass() {
        C.sentence("or it holds no class (method)");
        C.refused("a number", Machines::idle, m -> m.method(3, 0, 0xB1, 0));
        C.refused("nil", Machines::idle, m -> m.method(5, 0, 0xB1, 0));
        C.refused("an instance", Machines::idle, m -> m.method(2, 0, 0xB1, 0));
        C.refused("an instance of class 1", Machines::idle, m -> m.method(4, 0, 0xB1, 0));
        C.refused("an instance, when running", Machines::running, m -> m.method(2, 0, 0xB1, 0));
    }

    private static void methodsOfANewClass() {
        C.sentence("a new class");
        MessageMachine m = new MessageMachine();
        m.define(0, 5, 0);
        for (int s = 0; s < 8; s++) {
            m.method(0, s, 0xB1, 0);
        }
        m.drop(0);
        C.due("with the number of one that is gone", m.define(0, 5, 0), 4);
        m.make(1, 0);
        for (int s = 0; s < 8; s++) {
            C.due("has no method for " + s, m.lookup(1, s), 0);
        }
    }

    private static void make() {
        C.sentence("Handle h holds a new instance of the class that handle c holds. Answers its number");
        MessageMachine m = Machines.idle();
        C.due("make", m.make(5, 1), 8);
        C.due("handle", m.handle(5), 8);
        C.due("class", m.classOf(8), 5);
        for (int k = 0; k < 3; k++) {
            C.due("field", m.field(8, k), 0);
        }
        C.due("no field more", m.field(8, 3), BAD);
        C.due("instead of another", m.make(5, 0), 9);
        C.due("which is given back", m.classOf(8), BAD);
    }

    private static void makeWithoutHandle() {
        C.sentence("BAD when a handle isn't one (make)");
        for (int h : Machines.WRONG_HANDLES) {
            C.badEverywhere("h " + h, m -> m.make(h, 0));
            C.badEverywhere("c " + h, m -> m.make(5, h));
        }
    }

    private static void makeOfNoClass() {
        C.sentence("BAD when c holds no class (make)");
        C.bad("a number", Machines::idle, m -> m.make(5, 3));
        C.bad("nil", Machines::idle, m -> m.make(0, 5));
        C.bad("an instance", Machines::idle, m -> m.make(5, 2));
        C.bad("an instance of class 1", Machines::idle, m -> m.make(5, 4));
        C.bad("an instance, when halted", Machines::halted, m -> m.make(5, 2));
    }

    private static void makeNoRoom() {
        C.sentence("BAD when there is no room (make)");
        C.bad("all are alive", Machines::full, m -> m.make(5, 0));
        C.bad("though what the handle holds would go", Machines::full, m -> m.make(4, 0));
        MessageMachine m = Machines.full();
        m.drop(4);
        C.due("one place is room", m.make(5, 0), 7);
        C.due("for one", m.make(4, 0), BAD);
    }

    private static void number() {
        C.sentence("Handle h holds number v");
        for (int h = 0; h < 6; h++) {
            MessageMachine m = Machines.idle();
            C.yes("the least", m.number(h, -512));
            C.due("the least", m.handle(h), 488);
            C.yes("the greatest", m.number(h, 511));
            C.due("the greatest", m.handle(h), 1511);
        }
        MessageMachine m = new MessageMachine();
        m.define(0, 5, 0);
        m.number(0, 4);
        C.due("number 4 is not object 4", m.alive(), 4);
    }

    private static void numberNoneSuch() {
        C.sentence("False when there is none such (number)");
        for (int h : Machines.WRONG_HANDLES) {
            C.refusedEverywhere("handle " + h, m -> m.number(h, 1));
        }
        for (int v : new int[] {-513, 512, Integer.MIN_VALUE, Integer.MAX_VALUE}) {
            C.refusedEverywhere("number " + v, m -> m.number(1, v));
        }
    }

    private static void move() {
        C.sentence("Handle h holds what handle g holds");
        for (int g = 0; g < 6; g++) {
            for (int h = 0; h < 6; h++) {
                MessageMachine m = Machines.idle();
                int word = m.handle(g);
                C.yes("move", m.move(h, g));
                C.due("moved", m.handle(h), word);
                C.due("kept", m.handle(g), word);
            }
        }
        MessageMachine m = new MessageMachine();
        m.define(0, 5, 0);
        m.move(1, 0);
        C.due("held twice", m.count(4), 2);
        m.move(0, 5);
        m.move(1, 5);
        C.due("given back", m.alive(), 4);
    }

    private static void moveNoneSuch() {
        C.sentence("False when there is none such (move)");
        for (int h : Machines.WRONG_HANDLES) {
            C.refusedEverywhere("h " + h, m -> m.move(h, 1));
            C.refusedEverywhere("g " + h, m -> m.move(1, h));
        }
    }

    private static void drop() {
        C.sentence("Handle h holds nil");
        for (int h = 0; h < 6; h++) {
            MessageMachine m = Machines.idle();
            C.yes("drop", m.drop(h));
            C.due("nil", m.handle(h), 0);
            C.yes("once more", m.drop(h));
            C.due("nil still", m.handle(h), 0);
        }
    }

    private static void dropNoneSuch() {
        C.sentence("False when there is none such (drop)");
        for (int h : Machines.WRONG_HANDLES) {
            C.refusedEverywhere("handle " + h, m -> m.drop(h));
        }
    }

    private static void fetch() {
        C.sentence("Handle h holds field k of the object that handle g holds");
        MessageMachine m = Machines.idle();
        C.yes("an object", m.fetch(5, 2, 0));
        C.due("an object", m.handle(5), 6);
        C.yes("a number", m.fetch(5, 2, 1));
        C.due("a number", m.handle(5), 1007);
        C.yes("nil, in the last field", m.fetch(5, 2, 2));
        C.due("nil", m.handle(5), 0);
        C.yes("a superclass", m.fetch(5, 1, 0));
        C.due("a superclass", m.handle(5), 4);
        C.yes("the superclass nil", m.fetch(5, 0, 0));
        C.due("the superclass nil", m.handle(5), 0);
        m.kind(4, 3);
        C.yes("the superclass of 2", m.fetch(5, 4, 0));
        C.due("the superclass of 2", m.handle(5), 1);
    }

    private static void fetchNoSuchField() {
        C.sentence("False when there is none such (classes have one field, contexts 15) (fetch)");
        for (int k : new int[] {-1, 3, 15, Integer.MIN_VALUE, Integer.MAX_VALUE}) {
            C.refused("field " + k + " of three", Machines::idle, m -> m.fetch(5, 2, k));
        }
        for (int k : new int[] {-1, 1, 2}) {
            C.refused("field " + k + " of a class, whatever its size", Machines::idle, m -> m.fetch(5, 0, k));
        }
        C.refused("a field of nil", Machines::idle, m -> m.fetch(0, 5, 0));
        C.refused("a field of an instance that has none", Machines::idle, m -> m.fetch(5, 4, 0));
    }

    private static void fetchOfANumber() {
        C.sentence("or g holds a number (fetch)");
        for (int v : new int[] {-512, 0, 6, 511}) {
            C.refused("number " + v, () -> withNumber(v), m -> m.fetch(5, 3, 0));
        }
    }

    private static MessageMachine withNumber(int v) {
        MessageMachine m = Machines.idle();
        m.number(3, v);
        return m;
    }

    private static void fetchWithoutHandle() {
        C.sentence("False when there is none such (fetch: handles)");
        for (int h : Machines.WRONG_HANDLES) {
            C.refusedEverywhere("h " + h, m -> m.fetch(h, 1, 0));
            C.refusedEverywhere("g " + h, m -> m.fetch(5, h, 0));
        }
    }

    private static void kind() {
        C.sentence("Handle h holds the class of what handle g holds");
        int[] classes = {1, 1, 5, 2, 1, 1};
        for (int g = 0; g < 6; g++) {
            MessageMachine m = Machines.idle();
            C.yes("kind of " + g, m.kind(5, g));
            C.due("kind of " + g, m.handle(5), classes[g]);
        }
        MessageMachine m = new MessageMachine();
        m.define(0, 5, 0);
        m.make(0, 0);
        m.kind(1, 0);
        C.due("it is held then", m.count(4), 2);
    }

    private static void kindNoneSuch() {
        C.sentence("False when there is none such (kind)");
        for (int h : Machines.WRONG_HANDLES) {
            C.refusedEverywhere("h " + h, m -> m.kind(h, 1));
            C.refusedEverywhere("g " + h, m -> m.kind(1, h));
        }
    }

    private static void store() {
        C.sentence("Field k of the object that handle g holds becomes what handle h holds");
        for (int h = 0; h < 6; h++) {
            for (int k = 0; k < 3; k++) {
                MessageMachine m = Machines.idle();
                C.yes("store", m.store(2, k, h));
                for (int i = 0; i < 3; i++) {
                    int before = i == 0 ? 6 : i == 1 ? 1007 : 0;
                    C.due("field " + i, m.field(6, i), i == k ? m.handle(h) : before);
                }
            }
        }
        MessageMachine m = Machines.idle();
        m.store(2, 2, 4);
        m.drop(4);
        C.due("the field holds it", m.count(7), 1);
        m.store(2, 2, 5);
        C.due("and no more", m.classOf(7), BAD);
    }

    private static void storeAsForFetch() {
        C.sentence("False as for fetch (store)");
        for (int h : Machines.WRONG_HANDLES) {
            C.refusedEverywhere("h " + h, m -> m.store(2, 0, h));
            C.refusedEverywhere("g " + h, m -> m.store(h, 0, 2));
        }
        for (int k : new int[] {-1, 3, 15, Integer.MIN_VALUE, Integer.MAX_VALUE}) {
            C.refused("field " + k + " of three", Machines::idle, m -> m.store(2, k, 0));
        }
        C.refused("a field of nil", Machines::idle, m -> m.store(5, 0, 0));
        C.refused("a field of an instance that has none", Machines::idle, m -> m.store(4, 0, 0));
        C.refused("a field of a number", Machines::idle, m -> m.store(3, 0, 0));
    }

    private static void storeIntoAClass() {
        C.sentence("and when that object is a class or a context (store)");
        C.refused("the superclass of a class", Machines::idle, m -> m.store(1, 0, 5));
        C.refused("the same one once more", Machines::idle, m -> m.store(1, 0, 0));
        C.refused("the superclass of class 2", ObjectCallsTest::withClassTwo, m -> m.store(4, 0, 5));
        C.refused("a field that it has not", Machines::idle, m -> m.store(1, 1, 5));
    }

    private static MessageMachine withClassTwo() {
        MessageMachine m = Machines.idle();
        m.kind(4, 3);
        return m;
    }

    private static MessageMachine withClassOne() {
        MessageMachine m = Machines.idle();
        m.kind(4, 0);
        return m;
    }

    /** Handle 4 holds class 8 below class 5, which is below class 4. */
    private static MessageMachine withThreeClasses() {
        MessageMachine m = Machines.idle();
        m.define(4, 1, 0);
        return m;
    }

    private static void inherit() {
        C.sentence("The class that handle c holds gets as its superclass what handle s holds");
        MessageMachine m = withThreeClasses();
        C.yes("a class", m.inherit(4, 0));
        C.due("a class", m.field(8, 0), 4);
        C.yes("a ring no more", m.inherit(1, 4));
        C.due("another", m.field(5, 0), 8);
        C.yes("nil", m.inherit(4, 5));
        C.due("nil", m.field(8, 0), 0);
        C.yes("nil once more", m.inherit(4, 5));
        m.kind(5, 3);
        C.yes("class 2", m.inherit(4, 5));
        C.due("class 2", m.field(8, 0), 2);
        m.kind(5, 5);
        C.yes("class 1", m.inherit(4, 5));
        C.due("class 1", m.field(8, 0), 1);
        m = new MessageMachine();
        m.define(0, 5, 0);
        m.define(0, 0, 0);
        C.due("the superclass is held", m.alive(), 6);
        m.inherit(0, 5);
        C.due("and no more", m.alive(), 5);
    }

    private static void inheritOfTheFirst() {
        C.sentence("(none of 1, 2, 3) (inherit)");
        C.refused("1 gets nil", ObjectCallsTest::withClassOne, m -> m.inherit(4, 5));
        C.refused("1 gets a class", ObjectCallsTest::withClassOne, m -> m.inherit(4, 0));
        C.refused("2 gets nil", ObjectCallsTest::withClassTwo, m -> m.inherit(4, 5));
        C.refused("2 gets a class", ObjectCallsTest::withClassTwo, m -> m.inherit(4, 0));
        MessageMachine m = Machines.idle();
        C.yes("4 gets nil", m.inherit(0, 5));
    }

    private static void inheritNoneSuch() {
        C.sentence("False when there is none such (inherit)");
        for (int h : Machines.WRONG_HANDLES) {
            C.refusedEverywhere("c " + h, m -> m.inherit(h, 5));
            C.refusedEverywhere("s " + h, m -> m.inherit(1, h));
        }
        C.refused("of nil", Machines::idle, m -> m.inherit(5, 0));
        C.refused("of a number", Machines::idle, m -> m.inherit(3, 0));
        C.refused("of an instance", Machines::idle, m -> m.inherit(2, 0));
        C.refused("of an instance of class 1", Machines::idle, m -> m.inherit(4, 0));
    }

    private static void inheritFromNoClass() {
        C.sentence("that is neither a class nor nil (inherit)");
        C.refused("a number", Machines::idle, m -> m.inherit(1, 3));
        C.refused("an instance", Machines::idle, m -> m.inherit(1, 2));
        C.refused("an instance of class 1", Machines::idle, m -> m.inherit(1, 4));
    }

    private static void inheritItself() {
        C.sentence("the class would be among its own superclasses (itself)");
        C.refused("with nil above", Machines::idle, m -> m.inherit(0, 0));
        C.refused("with a class above", Machines::idle, m -> m.inherit(1, 1));
        C.refused("by another handle", ObjectCallsTest::withOneTwice, m -> m.inherit(1, 4));
    }

    private static MessageMachine withOneTwice() {
        MessageMachine m = Machines.idle();
        m.move(4, 1);
        return m;
    }

    private static void inheritFromOneBelow() {
        C.sentence("the class would be among its own superclasses (one below it, as s)");
        C.refused("one below", ObjectCallsTest::withThreeClasses, m -> m.inherit(0, 1));
        C.refused("two below", ObjectCallsTest::withThreeClasses, m -> m.inherit(0, 4));
        C.refused("the end of the longest chain", Machines::full, m -> m.inherit(0, 1));
    }
}
