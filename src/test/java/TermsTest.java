/** The terms of the document: objects, words, classes, methods, looking up, handles and contexts. */
public final class TermsTest {
    private static final Checks C = new Checks();
    private static final int BAD = MessageMachine.BAD;

    public static void main(String[] args) {
        use();
        objects();
        aliveOnes();
        numbers();
        toldWords();
        firstFour();
        alwaysAlive();
        classOfNilAndClasses();
        classOfNumbers();
        instancesOfClassOneAreNoClasses();
        oneField();
        superclassesOfTheFirst();
        sizes();
        sizesOfTheFirst();
        selectors();
        methodsOfTheFirst();
        argumentsOfASend();
        argumentsOfAByte();
        sixteenBytes();
        lookUpTheFirst();
        lookUpToNil();
        handles();
        namedTwiceDefine();
        namedTwiceMake();
        namedTwiceMove();
        namedTwiceFetch();
        namedTwiceKind();
        namedTwiceStore();
        conditions();
        contextFields();
        newContextFields();
        noSender();
        placeAndSelectorAreNumbers();
        placeSixteen();
        stackKnowsBesides();
        nilAboveTheTop();
        replacedMethods();
        refusedCalls();
        C.end();
    }

    private static void use() {
        C.sentence("An object is used for at most 512 calls after it has been made");
        MessageMachine m = new MessageMachine();
        for (int call = 1; call < 512; call++) {
            C.yes("call " + call, m.number(call % 6, call - 1));
        }
        C.due("the 512th call", m.handle(511 % 6), 1510);
    }

    private static void objects() {
        C.sentence("OBJECTS have the numbers 0 .. 27");
        MessageMachine m = new MessageMachine();
        for (int o = 4; o <= 27; o++) {
            C.due("the next class", m.define(0, 0, 0), o);
        }
        C.due("one behind the last", m.define(0, 0, 0), BAD);
        C.due("the last", m.classOf(27), 1);
        for (int o : Machines.WRONG_OBJECTS) {
            C.badEverywhere("no object " + o, x -> x.classOf(o));
        }
    }

    private static void aliveOnes() {
        C.sentence("those that are ALIVE have a class (an object) and FIELDS");
        MessageMachine m = Machines.idle();
        C.due("class", m.classOf(6), 5);
        C.due("field", m.field(6, 1), 1007);
        m.drop(2);
        m.number(2, 1);
        C.due("alive still, by its own field", m.classOf(6), 5);
        m.sweep();
        C.due("class of one that isn't", m.classOf(6), BAD);
        C.due("field of one that isn't", m.field(6, 1), BAD);
        C.due("count of one that isn't", m.count(6), BAD);
    }

    private static void numbers() {
        C.sentence("A WORD is an object or a NUMBER, -512 .. 511");
        for (int v : new int[] {-512, -511, -1, 0, 1, 27, 510, 511}) {
            MessageMachine m = new MessageMachine();
            C.yes("number " + v, m.number(0, v));
            C.due("number " + v, m.handle(0), 1000 + v);
        }
        for (int v : new int[] {-513, 512, -1000, 1000, 1511, Integer.MIN_VALUE, Integer.MAX_VALUE}) {
            C.refusedEverywhere("number " + v, m -> m.number(0, v));
        }
    }

    private static void toldWords() {
        C.sentence("an object is told as its number (0 .. 27), number v as 1000 + v");
        MessageMachine m = Machines.full();
        C.due("the last object in a handle", m.handle(1), 27);
        C.due("an object in a field", m.field(27, 0), 26);
        C.due("number 7 in a handle", m.handle(3), 1007);
        C.due("number 7 in a field", m.field(6, 1), 1007);
        m.number(3, -512);
        m.store(2, 2, 3);
        C.due("the least number", m.field(6, 2), 488);
        m.number(3, 511);
        m.store(2, 2, 3);
        C.due("the greatest number", m.field(6, 2), 1511);
    }

    private static void firstFour() {
        C.sentence("Object 0 is NIL; 1, 2 and 3 are the classes OBJECT, NUMBER and CONTEXT");
        MessageMachine m = Machines.running();
        C.due("nil in a handle", m.handle(5), 0);
        m.kind(5, 0);
        C.due("the class of a class", m.handle(5), 1);
        m.kind(5, 3);
        C.due("the class of a number", m.handle(5), 2);
        C.due("the class of a context", m.classOf(m.active()), 3);
    }

    private static void alwaysAlive() {
        C.sentence("These four are always alive");
        MessageMachine m = new MessageMachine();
        for (int h = 0; h < 6; h++) {
            m.number(h, h);
        }
        C.due("swept", m.sweep(), 0);
        m.kind(0, 1);
        m.kind(0, 0);
        m.number(0, 1);
        C.due("alive", m.alive(), 4);
        C.due("nothing holds class 2", m.count(2), 0);
        C.due("nothing holds class 3", m.count(3), 0);
        for (int o = 0; o < 4; o++) {
            C.due("class of " + o, m.classOf(o), 1);
        }
    }

    private static void classOfNilAndClasses() {
        C.sentence("Nil and all classes have the class 1");
        MessageMachine m = Machines.full();
        for (int o = 0; o < 28; o++) {
            if (o != 6) {
                C.due("class of " + o, m.classOf(o), 1);
            }
        }
        for (int g : new int[] {0, 1, 5}) {
            m.kind(3, g);
            C.due("class of what handle " + g + " holds", m.handle(3), 1);
        }
    }

    private static void classOfNumbers() {
        C.sentence("the class of a number is 2");
        for (int v : new int[] {-512, -1, 0, 4, 511}) {
            MessageMachine m = new MessageMachine();
            m.number(0, v);
            m.kind(1, 0);
            C.due("class of number " + v, m.handle(1), 2);
        }
    }

    private static void instancesOfClassOneAreNoClasses() {
        C.sentence("A CLASS is an object with one field, its SUPERCLASS");
        MessageMachine m = Machines.idle();
        C.due("an instance of class 1", m.classOf(7), 1);
        C.due("has no field", m.field(7, 0), BAD);
        C.refused("it is no class for method", Machines::idle, x -> x.method(4, 0, 0, 0));
        C.bad("nor for make", Machines::idle, x -> x.make(5, 4));
        C.bad("nor for define", Machines::idle, x -> x.define(5, 4, 0));
    }

    private static void oneField() {
        C.sentence("classes have one field, contexts 15");
        MessageMachine m = Machines.running();
        C.due("field 0 of a class", m.field(5, 0), 4);
        C.due("field 1 of a class", m.field(5, 1), BAD);
        C.due("field -1 of a class", m.field(5, -1), BAD);
        C.due("field 14 of a context", m.field(9, 14), 0);
        C.due("field 15 of a context", m.field(9, 15), BAD);
        C.due("field -1 of a context", m.field(9, -1), BAD);
    }

    private static void superclassesOfTheFirst() {
        C.sentence("(a class or nil; of 1 it is nil, of 2 and 3 it is 1)");
        MessageMachine m = new MessageMachine();
        C.due("of 1", m.field(1, 0), 0);
        C.due("of 2", m.field(2, 0), 1);
        C.due("of 3", m.field(3, 0), 1);
        m.define(0, 5, 0);
        C.due("nil of a class of one's own", m.field(4, 0), 0);
    }

    private static void sizes() {
        C.sentence("it also has a SIZE, 0 .. 6, how many fields its instances have");
        for (int size = 0; size <= 6; size++) {
            MessageMachine m = new MessageMachine();
            m.define(0, 5, 0);
            m.define(0, 0, size);
            m.make(1, 0);
            for (int k = 0; k < 8; k++) {
                C.due("field " + k + " with size " + size, m.field(6, k), k < size ? 0 : BAD);
            }
        }
        MessageMachine m = Machines.idle();
        m.make(5, 0);
        C.due("the size is the class's own, not that of one below", m.field(8, 2), BAD);
        m.make(5, 1);
        C.due("nor that of the superclass", m.field(9, 2), 0);
    }

    private static void sizesOfTheFirst() {
        C.sentence("(of 1, 2 and 3: 0)");
        MessageMachine m = new MessageMachine();
        m.kind(0, 5);
        C.due("an instance of 1", m.make(1, 0), 4);
        C.due("has no field", m.field(4, 0), BAD);
        m.number(0, 1);
        m.kind(0, 0);
        C.due("an instance of 2", m.make(2, 0), 5);
        C.due("has no field", m.field(5, 0), BAD);
        C.due("is no number", m.handle(2), 5);
    }

    private static void selectors() {
        C.sentence("METHODS for some of the SELECTORS 0 .. 7");
        for (int s = 0; s < 8; s++) {
            MessageMachine m = new MessageMachine();
            m.define(0, 5, 0);
            m.make(1, 0);
            C.yes("method for " + s, m.method(0, s, 0xB1, 0));
            for (int other = 0; other < 8; other++) {
                C.due("looked up " + other, m.lookup(1, other), other == s ? 4 : 0);
            }
        }
        for (int s : Machines.WRONG_SELECTORS) {
            C.refusedEverywhere("method for " + s, m -> m.method(0, s, 0xB1, 0));
        }
    }

    private static void methodsOfTheFirst() {
        C.sentence("(1, 2 and 3, too)");
        MessageMachine m = Machines.idle();
        m.kind(4, 3);
        C.yes("class 2", m.method(4, 6, 0xB1, 0));
        C.due("numbers have it", m.lookup(3, 6), 2);
        C.due("others don't", m.lookup(5, 6), 0);
        m.kind(4, 4);
        C.yes("class 1", m.method(4, 7, 0xB1, 0));
        C.due("numbers have it from above", m.lookup(3, 7), 1);
        C.due("nil has it", m.lookup(5, 7), 1);
        C.due("classes have it", m.lookup(0, 7), 1);
        C.due("instances of a class below nil don't", m.lookup(2, 7), 0);
    }

    private static void argumentsOfASend() {
        C.sentence("A message with selector s has s % 3 arguments");
        for (int s = 0; s < 8; s++) {
            MessageMachine m = new MessageMachine();
            m.define(0, 5, 0);
            Machines.code(m, 0, s, 0xB1);
            m.make(1, 0);
            for (int h = 2; h < 6; h++) {
                m.number(h, h);
            }
            m.send(1, s);
            for (int i = 0; i < 4; i++) {
                C.due("temporary " + i + " of selector " + s, m.field(6, 5 + i), i < s % 3 ? 1002 + i : 0);
            }
        }
    }

    private static void argumentsOfAByte() {
        C.sentence("SENDS selector a: pops a % 3 arguments, the last one first, then the receiver");
        int[][] sending = {{}, {0x26}, {0x26, 0x27}};
        for (int s = 0; s < 8; s++) {
            MessageMachine m = new MessageMachine();
            m.define(0, 5, 0);
            m.make(1, 0);
            Machines.code(m, 0, s, 0xB1);
            int other = (s + 1) % 8;
            int[] words = sending[s % 3];
            int[] bytes = new int[words.length + 3];
            bytes[0] = 0x21;
            bytes[1] = 0x28;
            System.arraycopy(words, 0, bytes, 2, words.length);
            bytes[words.length + 2] = 0x50 + s;
            Machines.code(m, 0, other, bytes);
            m.send(1, other);
            C.due("bytes done", m.run(bytes.length), bytes.length);
            C.due("words left by selector " + s, m.stack(6), 1);
            C.due("receiver", m.field(7, 1), 5);
            for (int i = 0; i < 4; i++) {
                C.due("temporary " + i + " of selector " + s, m.field(7, 5 + i), i < s % 3 ? 1002 + i : 0);
            }
        }
    }

    private static void sixteenBytes() {
        C.sentence("A method is 16 bytes");
        MessageMachine m = new MessageMachine();
        m.define(0, 5, 0);
        m.make(1, 0);
        Machines.code(m, 0, 0, 0x25, 0x27, 0x70, 0x25, 0x70, 0x25, 0x70, 0x27, 0x71, 0x26, 0x70, 0x27, 0x72, 0x24, 0x70, 0xB0);
        m.send(1, 0);
        C.due("all of them are done", m.run(500), 16);
        C.due("in their order", m.handle(0), 1000 + 3 * (1 + 3 + 1 + 1 - 3 + 2));
        m = Machines.idle();
        m.method(0, 0, 0x8080808080808080L, 0x8080808080808080L);
        m.send(2, 0);
        C.due("no seventeenth", m.run(500), 16);
        C.due("there it fails", m.reason(), 6);
    }

    private static void lookUpTheFirst() {
        C.sentence("the first of the class, its superclass, the superclass of that, ..");
        MessageMachine m = new MessageMachine();
        m.define(0, 5, 0);
        m.define(1, 0, 0);
        m.define(2, 1, 0);
        m.make(3, 2);
        for (int h = 0; h < 3; h++) {
            Machines.code(m, h, h, 0xB1);
            C.due("only one", m.lookup(3, h), 4 + h);
        }
        Machines.code(m, 1, 0, 0xB1);
        C.due("the one below comes first", m.lookup(3, 0), 5);
        Machines.code(m, 2, 0, 0xB1);
        C.due("the class itself comes first", m.lookup(3, 0), 6);
        C.due("others' methods are not looked at", m.lookup(3, 3), 0);
    }

    private static void lookUpToNil() {
        C.sentence("(up to nil)");
        MessageMachine m = new MessageMachine();
        m.define(0, 5, 0);
        Machines.code(m, 0, 5, 0xB1);
        for (int o = 5; o < 27; o++) {
            m.define(0, 0, 0);
        }
        C.due("an instance in the last room", m.make(1, 0), 27);
        C.due("found at the end of the longest chain", m.lookup(1, 5), 4);
        C.due("found nowhere in it", m.lookup(1, 4), 0);
        m = new MessageMachine();
        m.kind(0, 5);
        Machines.code(m, 0, 0, 0xB1);
        m.define(1, 5, 0);
        m.make(2, 1);
        C.due("class 1 is not above a class with nil", m.lookup(2, 0), 0);
    }

    private static void handles() {
        C.sentence("HANDLES 0 .. 5 hold words, nil at first");
        MessageMachine m = new MessageMachine();
        for (int h = 0; h < 6; h++) {
            C.due("handle " + h, m.handle(h), 0);
        }
        for (int h = 0; h < 6; h++) {
            m.number(h, h);
        }
        for (int h = 0; h < 6; h++) {
            C.due("each holds its own", m.handle(h), 1000 + h);
        }
    }

    private static void namedTwiceDefine() {
        C.sentence("(one that is named twice in a call is looked at before it gets another word): define");
        MessageMachine m = new MessageMachine();
        m.define(3, 3, 0);
        C.due("with nil", m.field(4, 0), 0);
        C.due("with a class that nothing else holds", m.define(3, 3, 0), 5);
        C.due("handle", m.handle(3), 5);
        C.due("superclass", m.field(5, 0), 4);
        C.due("both are alive", m.alive(), 6);
        C.bad("a number", Machines::idle, x -> x.define(3, 3, 0));
    }

    private static void namedTwiceMake() {
        C.sentence("(one that is named twice in a call is looked at before it gets another word): make");
        MessageMachine m = new MessageMachine();
        m.define(3, 3, 1);
        C.due("of a class that nothing else holds", m.make(3, 3), 5);
        C.due("handle", m.handle(3), 5);
        C.due("class", m.classOf(5), 4);
        C.due("both are alive", m.alive(), 6);
        C.bad("of itself", Machines::idle, x -> x.make(2, 2));
    }

    private static void namedTwiceMove() {
        C.sentence("(one that is named twice in a call is looked at before it gets another word): move");
        MessageMachine m = new MessageMachine();
        m.define(3, 3, 1);
        C.yes("onto itself", m.move(3, 3));
        C.due("holds it still", m.handle(3), 4);
        C.due("counted once", m.count(4), 1);
        C.changesNothing("move onto itself", Machines::idle, x -> x.move(2, 2));
    }

    private static void namedTwiceFetch() {
        C.sentence("(one that is named twice in a call is looked at before it gets another word): fetch");
        MessageMachine m = new MessageMachine();
        m.define(0, 5, 1);
        m.make(1, 0);
        m.make(2, 0);
        m.store(1, 0, 2);
        m.drop(2);
        C.yes("a field of what only this handle holds", m.fetch(1, 1, 0));
        C.due("the field's word, held by nothing else", m.handle(1), 6);
        C.due("is alive", m.count(6), 1);
        C.due("what had it is not", m.classOf(5), BAD);
        C.refused("a field of a number", Machines::idle, x -> x.fetch(3, 3, 0));
    }

    private static void namedTwiceKind() {
        C.sentence("(one that is named twice in a call is looked at before it gets another word): kind");
        MessageMachine m = new MessageMachine();
        m.define(3, 3, 1);
        m.make(3, 3);
        C.yes("of what only this handle holds", m.kind(3, 3));
        C.due("its class, that only it held", m.handle(3), 4);
        C.due("is alive", m.count(4), 1);
        C.due("the instance is not", m.classOf(5), BAD);
    }

    private static void namedTwiceStore() {
        C.sentence("(one that is named twice in a call is looked at before it gets another word): store");
        MessageMachine m = new MessageMachine();
        m.define(0, 5, 2);
        m.make(1, 0);
        C.yes("itself", m.store(1, 1, 1));
        C.due("is in its own field", m.field(5, 1), 5);
        C.due("counted twice", m.count(5), 2);
        C.due("the other field", m.field(5, 0), 0);
    }

    private static void conditions() {
        C.sentence("the machine is IDLE (0) when it is nil, HALTED (2) when a byte could not be done, else RUNNING (1)");
        MessageMachine m = new MessageMachine();
        C.due("idle: state", m.state(), 0);
        C.due("idle: active", m.active(), 0);
        m = Machines.running();
        C.due("running: state", m.state(), 1);
        C.due("running: active", m.active(), 9);
        m = Machines.halted();
        C.due("halted: state", m.state(), 2);
        C.due("halted: active", m.active(), 8);
        m = new MessageMachine();
        m.define(0, 5, 0);
        m.make(1, 0);
        m.method(0, 0, 0x8080808080808080L, 0x8080808080808080L);
        m.send(1, 0);
        m.run(16);
        C.due("behind the last byte it runs, till one could not be done", m.state(), 1);
        m.run(1);
        C.due("then it is halted", m.state(), 2);
    }

    private static void contextFields() {
        C.sentence("A CONTEXT is an object of class 3 with 15 fields");
        MessageMachine m = Machines.running();
        int[] inner = {8, 6, 4, 1004, 1002, 1003, 0, 0, 0, 6, 1000, 0, 0, 0, 0, BAD};
        int[] outer = {0, 6, 4, 1000, 1004, 0, 0, 0, 0, 1002, 0, 0, 0, 0, 0, BAD};
        for (int k = 0; k < 16; k++) {
            C.due("field " + k + " of the active one", m.field(9, k), inner[k]);
            C.due("field " + k + " of its sender", m.field(8, k), outer[k]);
        }
        C.due("class", m.classOf(9), 3);
        C.due("stack of the active one", m.stack(9), 2);
        C.due("stack of its sender", m.stack(8), 1);
    }

    private static void newContextFields() {
        C.sentence("Fields above the stack's top are nil (of a new context with an old number)");
        MessageMachine m = Machines.idle();
        Machines.code(m, 0, 5, 0x28, 0x32, 0x28, 0x33, 0x28, 0x28, 0x28, 0x28, 0x28, 0x28);
        m.send(2, 5);
        C.due("bytes done", m.run(10), 10);
        for (int k = 5; k < 15; k++) {
            C.yes("field " + k + " of the old one", m.field(8, k) != 0);
        }
        m.abort();
        m.send(2, 0);
        C.due("the number again", m.active(), 8);
        C.due("an empty stack", m.stack(8), 0);
        for (int k = 5; k < 15; k++) {
            C.due("field " + k + " of the new one", m.field(8, k), 0);
        }
    }

    private static void noSender() {
        C.sentence("0 the SENDER (a context or nil)");
        MessageMachine m = Machines.running();
        C.due("of one that was sent by a context", m.field(9, 0), 8);
        C.due("of one that was sent by a call", m.field(8, 0), 0);
    }

    private static void placeAndSelectorAreNumbers() {
        C.sentence("both are NUMBERS, told as 1000 and more");
        for (int s = 0; s < 8; s++) {
            MessageMachine m = new MessageMachine();
            m.define(0, 5, 0);
            Machines.code(m, 0, s, 0x80);
            m.make(1, 0);
            m.send(1, s);
            C.due("selector", m.field(6, 3), 1000 + s);
            C.due("place", m.field(6, 4), 1000);
            m.run(1);
            C.due("place behind a byte", m.field(6, 4), 1001);
        }
    }

    private static void placeSixteen() {
        C.sentence("4 the PLACE in the method (0 .. 15, and 16 behind it");
        MessageMachine m = new MessageMachine();
        m.define(0, 5, 0);
        m.make(1, 0);
        m.method(0, 0, 0x8080808080808080L, 0x8080808080808080L);
        m.send(1, 0);
        for (int place = 0; place <= 16; place++) {
            C.due("place", m.field(6, 4), 1000 + place);
            C.due("a byte there", m.run(1), place < 16 ? 1 : 0);
        }
        C.due("it stays behind the method", m.field(6, 4), 1016);
    }

    private static void stackKnowsBesides() {
        C.sentence("how many words the stack has it knows besides");
        MessageMachine m = new MessageMachine();
        m.define(0, 5, 0);
        m.make(1, 0);
        Machines.code(m, 0, 0, 0x20, 0x20, 0x20, 0x20, 0x20, 0x20, 0xD1, 0xD1, 0xD1, 0xD1, 0xD1, 0xD1);
        m.send(1, 0);
        for (int i = 0; i < 12; i++) {
            C.due("words, though all are nil", m.stack(6), i <= 6 ? i : 12 - i);
            m.run(1);
        }
        C.due("none", m.stack(6), 0);
    }

    private static void nilAboveTheTop() {
        C.sentence("Fields above the stack's top are nil");
        int[] popping = {0x30, 0x40, 0x50, 0x53, 0x54, 0x55, 0x60, 0x64, 0x65, 0x70, 0x71, 0x72, 0x73, 0x74, 0x90, 0xD1};
        for (int code : popping) {
            MessageMachine m = new MessageMachine();
            m.define(4, 5, 1);
            for (int s = 0; s < 6; s++) {
                Machines.code(m, 4, s, 0x24);
            }
            m.define(5, 4, 1);
            m.make(2, 5);
            m.number(1, 1);
            int word = code >> 4 == 7 ? 0x2B : 0x2C;
            Machines.code(m, 5, 0, word, word, word, word, word, word, code);
            m.send(2, 0);
            C.due("bytes done with " + code, m.run(7), 7);
            C.yes("words are popped by " + code, m.stack(7) < 6);
            for (int k = m.stack(7); k < 6; k++) {
                C.due("stack field " + k + " behind " + code, m.field(7, 9 + k), 0);
            }
        }
    }

    private static void replacedMethods() {
        C.sentence("a method that is replaced is so for contexts that run, too");
        MessageMachine m = new MessageMachine();
        m.define(0, 5, 0);
        m.make(1, 0);
        Machines.code(m, 0, 0, 0x25, 0x25, 0xB0);
        m.send(1, 0);
        m.run(1);
        Machines.code(m, 0, 0, 0xF0, 0x27, 0x70, 0xB0);
        C.due("it goes on in the new one", m.run(9), 3);
        C.due("with the words that it had", m.handle(0), 1004);
        m = Machines.running();
        Machines.code(m, 0, 0, 0xF0, 0xF0, 0xF0, 0xF0, 0x71, 0xB0);
        m.run(500);
        C.due("a sender, too", m.handle(0), 998);
        m = Machines.running();
        m.drop(0);
        Machines.code(m, 1, 4, 0xF0, 0xF0, 0xF0);
        C.due("but it keeps to the class where it was found", m.run(1), 1);
    }

    private static void refusedCalls() {
        C.sentence("A call that is refused changes nothing");
        C.refused("a drop, where only contexts hold objects", TermsTest::heldByContexts, m -> m.drop(6));
        C.refused("a send, where only contexts hold objects", TermsTest::heldByContexts, m -> m.send(2, 0));
        C.bad("a make, when all are alive", Machines::full, m -> m.make(0, 0));
        C.bad("a define, when all are alive", Machines::full, m -> m.define(1, 0, 0));
    }

    private static MessageMachine heldByContexts() {
        MessageMachine m = Machines.running();
        m.drop(0);
        m.drop(1);
        m.drop(2);
        return m;
    }
}
