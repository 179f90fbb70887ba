import java.util.Arrays;
import java.util.function.Supplier;

/** To do a byte: what each of them does, the reasons by which it fails, and their order. */
public final class BytesTest {
    private static final Checks C = new Checks();
    private static final int BAD = MessageMachine.BAD;

    // In the machines of prepared(): handle 5 holds class 4, handle 4 its instance 5; contexts follow from 6 on.
    private static final int CLASS = 4;
    private static final int INSTANCE = 5;
    private static final int CONTEXT = 6;

    public static void main(String[] args) {
        placeIsOneMore();
        popsMoreThanTheStackHas();
        looksAtMoreThanTheStackHas();
        justEnoughWords();
        pushesWhenTheStackHasSix();
        popsFirstWhenTheStackHasSix();
        failsFirstByOne();
        firstThatHolds();
        pushTemporary();
        pushTemporaryAboveThree();
        pushField();
        pushFieldOfNoObject();
        pushFieldThatIsNone();
        pushOther();
        popTemporary();
        popTemporaryAboveThree();
        popField();
        popFieldAsPushField();
        popFieldOfAClass();
        send();
        sendAboveSeven();
        sendWithoutMethod();
        sendWithoutRoom();
        sendAbove();
        sendAboveFails();
        sendAboveFromNil();
        calculate();
        less();
        same();
        calculateAboveFour();
        calculateWithNoNumber();
        calculateNoNumberOfTheMachine();
        forward();
        forwardAboveSixteen();
        forwardIfNil();
        forwardIfNilAboveSixteen();
        back();
        backBelowZero();
        returnTop();
        returnReceiver();
        returnOther();
        returnToSender();
        returnToNone();
        instance();
        instanceWithAnOldNumber();
        instanceOther();
        instanceOfNoClass();
        instanceWithoutRoom();
        topOnceMore();
        popTop();
        topOther();
        fourteenAndFifteen();
        placeSixteen();
        failingChangesNothing();
        halted();
        C.end();
    }

    private static MessageMachine prepared() {
        MessageMachine m = new MessageMachine();
        m.define(5, 0, 2);
        m.make(4, 5);
        return m;
    }

    /** Handles 1 and 2 hold numbers. */
    private static MessageMachine withNumbers(int x, int y) {
        MessageMachine m = prepared();
        m.number(1, x);
        m.number(2, y);
        return m;
    }

    /** Classes take the room, but for a context that is to be sent and as many as are left. */
    private static MessageMachine crowded(int left) {
        MessageMachine m = prepared();
        while (m.alive() < 27 - left) {
            m.define(3, 3, 0);
        }
        return m;
    }

    /** As prepared, but handle 4 holds nil as the receiver, and handle 5 its class. */
    private static MessageMachine onNil() {
        MessageMachine m = prepared();
        m.drop(4);
        m.kind(5, 4);
        return m;
    }

    private static MessageMachine onNumber() {
        MessageMachine m = prepared();
        m.number(4, 5);
        m.kind(5, 4);
        return m;
    }

    /** Class 6 below class 4. */
    private static MessageMachine onClass() {
        MessageMachine m = prepared();
        m.define(4, 5, 6);
        m.kind(5, 4);
        return m;
    }

    private static MessageMachine onInstanceOfClassOne() {
        MessageMachine m = prepared();
        m.kind(4, 3);
        m.make(4, 4);
        m.kind(5, 4);
        return m;
    }

    private static MessageMachine started(MessageMachine m, int... bytes) {
        Machines.code(m, 5, 0, bytes);
        m.send(4, 0);
        return m;
    }

    private static MessageMachine done(MessageMachine m, int... bytes) {
        started(m, bytes);
        C.due(Arrays.toString(bytes) + " done", m.run(bytes.length), bytes.length);
        return m;
    }

    private static void answers(MessageMachine m, int want, int... bytes) {
        answersAfter(m, bytes.length, want, bytes);
    }

    private static void answersAfter(MessageMachine m, int steps, int want, int... bytes) {
        String what = Arrays.toString(bytes);
        started(m, bytes);
        C.due(what + " done", m.run(500), steps);
        C.due(what + " state", m.state(), 0);
        C.due(what + " answer", m.handle(0), want);
    }

    /** All bytes but the last are done; the last one fails by the reason. */
    private static void fails(Supplier<MessageMachine> before, int reason, int... bytes) {
        String what = Arrays.toString(bytes);
        C.halts(what, () -> {
            MessageMachine m = started(before.get(), bytes);
            C.due(what + " done before", m.run(bytes.length - 1), bytes.length - 1);
            return m;
        }, reason);
    }

    private static void fails(int reason, int... bytes) {
        fails(BytesTest::prepared, reason, bytes);
    }

    /** So many words that are the receiver, and a byte. */
    private static int[] wordsAnd(int words, int code) {
        int[] bytes = new int[words + 1];
        Arrays.fill(bytes, 0x28);
        bytes[words] = code;
        return bytes;
    }

    private static int[] sixNumbersAnd(int code) {
        return new int[] {0x21, 0x22, 0x23, 0x24, 0x25, 0x26, code};
    }

    private static void placeIsOneMore() {
        C.sentence("the one at the active context's place; the place is one more then");
        int[] codes = {0x00, 0x10, 0x20, 0x30, 0x40, 0x74, 0x80, 0x90, 0xD0, 0xD1};
        for (int code : codes) {
            MessageMachine m = done(prepared(), 0x28, 0x28, code);
            C.due("place", m.field(CONTEXT, 4), 1003);
        }
        MessageMachine m = done(prepared(), 0x80, 0x80, 0x80, 0x80, 0x80, 0x80, 0x80, 0x80, 0x80, 0x80, 0x80, 0x80, 0x80, 0x80, 0x80, 0x80);
        C.due("behind the last", m.field(CONTEXT, 4), 1016);
    }

    /** How many words a byte pops or looks at; with a wrong a, too, if that is told whatever a is. */
    private static int wordsNeeded(int code) {
        int a = code & 15;
        switch (code >> 4) {
            case 3: case 4: case 9:
                return 1;
            case 5: case 6:
                return a % 3 + 1;
            case 7:
                return 2;
            case 11: case 12:
                return a == 0 ? 1 : 0;
            case 13:
                return a < 2 ? 1 : 0;
            default:
                return 0;
        }
    }

    private static void popsMoreThanTheStackHas() {
        C.sentence("it fails first by [1] when it pops more words than the stack has");
        for (int code = 0; code < 256; code++) {
            boolean looks = code == 0xB0 || code == 0xD0;
            for (int words = 0; words < wordsNeeded(code) && !looks; words++) {
                fails(1, wordsAnd(words, code));
            }
        }
    }

    private static void looksAtMoreThanTheStackHas() {
        C.sentence("it fails first by [1] when it looks at more words than the stack has");
        fails(1, 0xB0);
        fails(1, 0xD0);
        fails(1, 0x25, 0xD1, 0xB0);
        fails(1, 0x25, 0xD1, 0xD0);
    }

    private static void justEnoughWords() {
        C.sentence("more words than the stack has (just as many)");
        for (int code = 0; code < 256; code++) {
            int words = wordsNeeded(code);
            MessageMachine m = started(prepared(), wordsAnd(words, code));
            C.due("words", m.run(words), words);
            m.run(1);
            C.yes("code " + code + " does not fail by 1", m.reason() != 1);
        }
        done(prepared(), 0x25, 0x30);
        done(prepared(), 0x25, 0x40);
        done(prepared(), 0x28, 0x50);
        done(prepared(), 0x25, 0x25, 0x70);
        done(prepared(), 0x25, 0x90);
        done(prepared(), 0x25, 0xB0);
        done(prepared(), 0xB1);
        done(prepared(), 0x29, 0xC0);
        done(prepared(), 0x25, 0xD0);
        done(prepared(), 0x25, 0xD1);
    }

    private static void pushesWhenTheStackHasSix() {
        C.sentence("or pushes without popping when the stack has 6");
        for (int code = 0; code < 0x30; code++) {
            fails(1, sixNumbersAnd(code));
        }
        fails(1, sixNumbersAnd(0xD0));
        for (int code : new int[] {0x00, 0x03, 0x10, 0x11, 0x20, 0x2F, 0xD0}) {
            MessageMachine m = done(prepared(), 0x21, 0x22, 0x23, 0x24, 0x25, code);
            C.due("a sixth word", m.stack(CONTEXT), 6);
        }
    }

    private static void popsFirstWhenTheStackHasSix() {
        C.sentence("pushes without popping (popping first)");
        for (int code : new int[] {0x30, 0x40, 0x70, 0x80, 0x90, 0xA0, 0xB0, 0xB1, 0xD1}) {
            MessageMachine m = started(prepared(), sixNumbersAnd(code));
            C.due("code " + code, m.run(7), 7);
        }
        MessageMachine m = done(prepared(), 0x21, 0x22, 0x23, 0x24, 0x25, 0x2F, 0xC0);
        C.due("six with the instance", m.stack(CONTEXT), 6);
        m = done(prepared(), 0x21, 0x22, 0x23, 0x24, 0x25, 0x28, 0x50);
        C.due("five behind a send", m.stack(CONTEXT), 5);
    }

    private static void failsFirstByOne() {
        C.sentence("it fails first by [1] .. then by what is named with it");
        fails(1, 0x34);
        fails(1, 0x42);
        fails(BytesTest::onNumber, 1, 0x40);
        fails(1, 0x58);
        fails(1, 0x68);
        fails(1, 0x51);
        fails(1, 0x61);
        fails(1, 0x28, 0x51);
        fails(1, 0x7F);
        fails(1, 0x28, 0x75);
        fails(1, sixNumbersAnd(0x04));
        fails(1, sixNumbersAnd(0x12));
        fails(BytesTest::onNil, 1, sixNumbersAnd(0x10));
        fails(() -> crowded(0), 1, 0x50);
        fails(() -> crowded(0), 1, 0xC0);
    }

    private static void firstThatHolds() {
        C.sentence("the first that holds");
        fails(() -> crowded(0), 3, 0x28, 0x59);
        fails(() -> crowded(0), 3, 0x28, 0x69);
        fails(() -> crowded(0), 2, 0x28, 0x53);
        fails(() -> crowded(0), 2, 0x28, 0x63);
        fails(() -> crowded(0), 3, 0x28, 0xC0);
        fails(() -> crowded(0), 3, 0x29, 0xC1);
        fails(() -> withNumbers(511, 511), 3, 0x2B, 0x2C, 0x75);
    }

    private static void pushTemporary() {
        C.sentence("o 0: pushes temporary a");
        MessageMachine m = prepared();
        m.number(0, 70);
        m.number(1, 80);
        m.move(2, 4);
        m.move(3, 0);
        m.move(4, 1);
        Machines.code(m, 5, 2, 0x27, 0x32, 0x2F, 0x33, 0x00, 0x01, 0x02, 0x03);
        m.send(2, 2);
        m.run(8);
        int[] due = {1070, 1080, 1003, CLASS};
        for (int a = 0; a < 4; a++) {
            C.due("temporary " + a, m.field(CONTEXT, 9 + a), due[a]);
            C.due("it stays there", m.field(CONTEXT, 5 + a), due[a]);
        }
        C.due("stack", m.stack(CONTEXT), 4);
        m = done(prepared(), 0x00, 0x03);
        C.due("nil at first", m.field(CONTEXT, 9), 0);
        C.due("two nils", m.stack(CONTEXT), 2);
    }

    private static void pushTemporaryAboveThree() {
        C.sentence("o 0: [3] a above 3");
        for (int a = 4; a < 16; a++) {
            fails(3, a);
        }
    }

    private static void pushField() {
        C.sentence("1: pushes field a of the receiver");
        MessageMachine m = prepared();
        m.number(0, 9);
        m.store(4, 0, 0);
        m.store(4, 1, 4);
        started(m, 0x10, 0x11);
        C.due("both", m.run(2), 2);
        C.due("a number", m.field(CONTEXT, 9), 1009);
        C.due("an object", m.field(CONTEXT, 10), INSTANCE);
        answers(onClass(), CLASS, 0x10, 0xB0);
    }

    private static void pushFieldOfNoObject() {
        C.sentence("1: [3] the receiver is no object with such a field (no object, or none with fields)");
        for (int a = 0; a < 16; a++) {
            int code = 0x10 + a;
            fails(BytesTest::onNil, 3, code);
            fails(BytesTest::onNumber, 3, code);
            fails(BytesTest::onInstanceOfClassOne, 3, code);
        }
    }

    private static void pushFieldThatIsNone() {
        C.sentence("1: [3] the receiver is no object with such a field");
        for (int a = 2; a < 16; a++) {
            fails(3, 0x10 + a);
        }
        for (int a = 1; a < 16; a++) {
            int code = 0x10 + a;
            fails(BytesTest::onClass, 3, code);
        }
    }

    private static void pushOther() {
        C.sentence("2: pushes nil for a 0, the number a - 4 for 1 .. 7, the receiver for 8, the class of the receiver for 9, the handle a - 10 for 10 .. 15");
        int[] due = {0, 997, 998, 999, 1000, 1001, 1002, 1003, INSTANCE, CLASS, 1040, 1041, 1042, 1043, INSTANCE, CLASS};
        for (int a = 0; a < 16; a++) {
            MessageMachine m = prepared();
            for (int h = 0; h < 4; h++) {
                m.number(h, 40 + h);
            }
            answers(m, due[a], 0x20 + a, 0xB0);
        }
        answers(onNil(), 0, 0x28, 0xB0);
        answers(onNil(), 1, 0x29, 0xB0);
        answers(onNumber(), 1005, 0x28, 0xB0);
        answers(onNumber(), 2, 0x29, 0xB0);
        answers(onClass(), 1, 0x29, 0xB0);
    }

    private static void popTemporary() {
        C.sentence("3: pops into temporary a");
        for (int a = 0; a < 4; a++) {
            MessageMachine m = done(prepared(), 0x21, 0x28, 0x30 + a);
            for (int i = 0; i < 4; i++) {
                C.due("temporary " + i, m.field(CONTEXT, 5 + i), i == a ? INSTANCE : 0);
            }
            C.due("stack", m.stack(CONTEXT), 1);
            C.due("above the top", m.field(CONTEXT, 10), 0);
        }
    }

    private static void popTemporaryAboveThree() {
        C.sentence("3: [3] a above 3");
        for (int a = 4; a < 16; a++) {
            fails(3, 0x25, 0x30 + a);
        }
    }

    private static void popField() {
        C.sentence("4: pops into field a of the receiver");
        for (int a = 0; a < 2; a++) {
            MessageMachine m = done(prepared(), 0x21, 0x2F, 0x40 + a);
            C.due("field", m.field(INSTANCE, a), CLASS);
            C.due("the other", m.field(INSTANCE, 1 - a), 0);
            C.due("stack", m.stack(CONTEXT), 1);
            C.due("above the top", m.field(CONTEXT, 10), 0);
        }
        answers(prepared(), 1003, 0x26, 0x41, 0x27, 0x40, 0x10, 0xB0);
        answers(prepared(), 1002, 0x26, 0x41, 0x27, 0x40, 0x11, 0xB0);
    }

    private static void popFieldAsPushField() {
        C.sentence("4: [3] as 1");
        for (int a = 0; a < 16; a++) {
            int code = 0x40 + a;
            fails(BytesTest::onNil, 3, 0x25, code);
            fails(BytesTest::onNumber, 3, 0x25, code);
            fails(BytesTest::onInstanceOfClassOne, 3, 0x25, code);
            if (a > 1) {
                fails(3, 0x25, code);
            }
        }
    }

    private static void popFieldOfAClass() {
        C.sentence("4: [3] or the receiver is a class");
        for (int a = 0; a < 16; a++) {
            int code = 0x40 + a;
            fails(BytesTest::onClass, 3, 0x20, code);
        }
    }

    private static void send() {
        C.sentence("The new context has that receiver, the arguments as its first temporaries, place 0, an empty stack, the active one as sender, and becomes active");
        MessageMachine m = prepared();
        Machines.code(m, 5, 5, 0xB1);
        done(m, 0x27, 0x28, 0x25, 0x26, 0x55);
        C.due("active", m.active(), CONTEXT + 1);
        int[] due = {CONTEXT, INSTANCE, CLASS, 1005, 1000, 1001, 1002, 0, 0, 0, 0, 0, 0, 0, 0, BAD};
        for (int k = 0; k < due.length; k++) {
            C.due("field " + k, m.field(CONTEXT + 1, k), due[k]);
        }
        C.due("stack", m.stack(CONTEXT + 1), 0);
        C.due("class", m.classOf(CONTEXT + 1), 3);
        C.due("the sender's stack", m.stack(CONTEXT), 1);
        C.due("the sender's word", m.field(CONTEXT, 9), 1003);
        C.due("the sender's place", m.field(CONTEXT, 4), 1005);
        m = withNumbers(1, 2);
        m.kind(0, 1);
        Machines.code(m, 0, 3, 0x28, 0x27, 0x70, 0xB0);
        answersAfter(m, 7, 1006, 0x27, 0x53, 0xB0);
    }

    private static void sendAboveSeven() {
        C.sentence("5: [3] a above 7");
        for (int a = 8; a < 16; a++) {
            fails(3, 0x28, 0x28, 0x28, 0x50 + a);
        }
        MessageMachine m = prepared();
        Machines.code(m, 5, 7, 0xB1);
        done(m, 0x28, 0x25, 0x57);
    }

    private static void sendWithoutMethod() {
        C.sentence("5: [2] no method");
        for (int a = 1; a < 8; a++) {
            fails(2, 0x28, 0x28, 0x28, 0x50 + a);
        }
        fails(2, 0x20, 0x50);
        fails(2, 0x24, 0x50);
        fails(2, 0x2F, 0x50);
        fails(2, 0x24, 0x28, 0x51);
    }

    private static void sendWithoutRoom() {
        C.sentence("5: [4] no room for a context");
        fails(() -> crowded(0), 4, 0x28, 0x50);
        MessageMachine m = done(crowded(1), 0x28, 0x50);
        C.due("one place is room", m.active(), 27);
        m = started(prepared(), 0x28, 0x50);
        C.due("contexts take all the room", m.run(500), 43);
        C.due("till there is none", m.reason(), 4);
        C.due("all are alive", m.alive(), 28);
        C.due("the last one", m.active(), 27);
        C.due("its stack", m.stack(27), 1);
        m.abort();
        C.due("all are given back", m.alive(), 6);
    }

    /** Class 6 below class 4, both with a method for 1; handle 2 holds 8, an instance of a class below 6. */
    private static MessageMachine withThreeClasses() {
        MessageMachine m = prepared();
        Machines.code(m, 5, 1, 0x27, 0xB0);
        m.define(0, 5, 2);
        Machines.code(m, 0, 1, 0x26, 0xB0);
        Machines.code(m, 0, 0, 0x28, 0x20, 0x61, 0xB0);
        m.define(1, 0, 2);
        Machines.code(m, 1, 1, 0x25, 0xB0);
        m.make(2, 1);
        return m;
    }

    private static void sendAbove() {
        C.sentence("6: as 5, but looks up from the superclass of the class in field 2");
        MessageMachine m = withThreeClasses();
        m.send(2, 0);
        C.due("bytes done", m.run(3), 3);
        C.due("found in", m.field(m.active(), 2), CLASS);
        C.due("receiver", m.field(m.active(), 1), 8);
        m.run(3);
        C.due("answer", m.handle(0), 1003);
        m = prepared();
        m.define(0, 5, 0);
        Machines.code(m, 5, 3, 0x28, 0xB0);
        Machines.code(m, 0, 0, 0x27, 0x63, 0xB0);
        m.make(1, 0);
        m.send(1, 0);
        C.due("whatever the receiver is", m.run(500), 5);
        C.due("answer", m.handle(0), 1003);
        m = withThreeClasses();
        m.send(2, 0);
        m.run(2);
        m.kind(3, 5);
        Machines.code(m, 3, 1, 0x24, 0xB0);
        m.inherit(0, 3);
        m.run(500);
        C.due("the superclass that it has now", m.handle(0), 1000);
    }

    private static void sendAboveFails() {
        C.sentence("6: as 5 ([3], [2], [4])");
        for (int a = 8; a < 16; a++) {
            fails(3, 0x28, 0x28, 0x28, 0x60 + a);
        }
        Supplier<MessageMachine> below = () -> {
            MessageMachine m = prepared();
            m.kind(3, 3);
            m.inherit(5, 3);
            return m;
        };
        for (int a = 0; a < 8; a++) {
            fails(below, 2, 0x28, 0x28, 0x28, 0x60 + a);
        }
        Supplier<MessageMachine> full = () -> {
            MessageMachine m = crowded(0);
            m.kind(2, 3);
            Machines.code(m, 2, 3, 0xB1);
            m.inherit(5, 2);
            return m;
        };
        fails(full, 4, 0x28, 0x63);
    }

    private static void sendAboveFromNil() {
        C.sentence("(from nil: [2])");
        for (int a = 0; a < 8; a++) {
            fails(2, 0x28, 0x28, 0x28, 0x60 + a);
        }
    }

    private static void calculates(int x, int y, int a, int want) {
        answers(withNumbers(x, y), want, 0x2B, 0x2C, 0x70 + a, 0xB0);
    }

    private static void calculate() {
        C.sentence("7: pops y, then x, pushes for a 0: x + y, 1: x - y, 2: x y");
        calculates(20, 3, 0, 1023);
        calculates(20, 3, 1, 1017);
        calculates(3, 20, 1, 983);
        calculates(20, -3, 2, 940);
        calculates(-512, 0, 2, 1000);
        MessageMachine m = done(withNumbers(4, 5), 0x27, 0x2B, 0x2C, 0x70);
        C.due("stack", m.stack(CONTEXT), 2);
        C.due("beneath", m.field(CONTEXT, 9), 1003);
        C.due("result", m.field(CONTEXT, 10), 1009);
        C.due("above", m.field(CONTEXT, 11), 0);
    }

    private static void less() {
        C.sentence("3: number 1 if x is less than y, else nil");
        calculates(-512, 511, 3, 1001);
        calculates(511, -512, 3, 0);
        calculates(3, 4, 3, 1001);
        calculates(4, 4, 3, 0);
        calculates(4, 3, 3, 0);
    }

    private static void same() {
        C.sentence("4: number 1 if x and y are the same word, else nil");
        calculates(4, 4, 4, 1001);
        calculates(4, 5, 4, 0);
        answers(prepared(), 1001, 0x28, 0x2E, 0x74, 0xB0);
        answers(prepared(), 0, 0x28, 0x2F, 0x74, 0xB0);
        answers(prepared(), 1001, 0x20, 0x20, 0x74, 0xB0);
        answers(prepared(), 0, 0x20, 0x24, 0x74, 0xB0);
        answers(withNumbers(CLASS, INSTANCE), 0, 0x2B, 0x2F, 0x74, 0xB0);
    }

    private static void calculateAboveFour() {
        C.sentence("7: [3] a above 4");
        for (int a = 5; a < 16; a++) {
            fails(3, 0x25, 0x25, 0x70 + a);
            fails(3, 0x28, 0x28, 0x70 + a);
        }
    }

    private static void calculateWithNoNumber() {
        C.sentence("7: [3] or (but for 4) x or y is no number");
        for (int a = 0; a < 4; a++) {
            fails(3, 0x25, 0x20, 0x70 + a);
            fails(3, 0x20, 0x25, 0x70 + a);
            fails(3, 0x28, 0x25, 0x70 + a);
            fails(3, 0x25, 0x2F, 0x70 + a);
            fails(3, 0x20, 0x20, 0x70 + a);
        }
    }

    private static void leavesTheNumbers(int x, int y, int a) {
        fails(() -> withNumbers(x, y), 5, 0x2B, 0x2C, 0x70 + a);
    }

    private static void calculateNoNumberOfTheMachine() {
        C.sentence("7: [5] the result is no number of the machine");
        calculates(510, 1, 0, 1511);
        calculates(-511, -1, 0, 488);
        calculates(-511, 1, 1, 488);
        calculates(510, -1, 1, 1511);
        calculates(-256, 2, 2, 488);
        calculates(73, 7, 2, 1511);
        leavesTheNumbers(511, 1, 0);
        leavesTheNumbers(-512, -1, 0);
        leavesTheNumbers(511, 511, 0);
        leavesTheNumbers(-512, 1, 1);
        leavesTheNumbers(511, -1, 1);
        leavesTheNumbers(-512, 511, 1);
        leavesTheNumbers(256, 2, 2);
        leavesTheNumbers(-512, -1, 2);
        leavesTheNumbers(-171, 3, 2);
        leavesTheNumbers(-512, -512, 2);
        leavesTheNumbers(-512, 511, 2);
    }

    private static void forward() {
        C.sentence("8: the place grows by a");
        for (int a = 0; a < 16; a++) {
            MessageMachine m = done(prepared(), 0x80 + a);
            C.due("place", m.field(CONTEXT, 4), 1001 + a);
        }
        MessageMachine m = started(prepared(), 0x82, 0xF0, 0xF0, 0x27, 0xB0);
        C.due("bytes between are not done", m.run(500), 3);
        C.due("answer", m.handle(0), 1003);
    }

    private static void forwardAboveSixteen() {
        C.sentence("For 8: [3] the place would be above 16");
        MessageMachine m = done(prepared(), 0x80, 0x8E);
        C.due("just 16", m.field(CONTEXT, 4), 1016);
        fails(3, 0x80, 0x8F);
        fails(3, 0x80, 0x80, 0x8E);
        for (int a = 0; a < 16; a++) {
            MessageMachine last = started(prepared(), 0x8E, 0, 0, 0, 0, 0, 0, 0, 0, 0, 0, 0, 0, 0, 0, 0x80 + a);
            C.due("the last byte", last.run(500), a == 0 ? 2 : 1);
            C.due("goes to 16 alone", last.reason(), a == 0 ? 6 : 3);
            C.due("or stays", last.field(CONTEXT, 4), a == 0 ? 1016 : 1015);
        }
    }

    private static void forwardIfNil() {
        C.sentence("9: pops; the place grows by a if that was nil");
        for (int a = 0; a < 15; a++) {
            MessageMachine m = done(prepared(), 0x20, 0x90 + a);
            C.due("nil: place", m.field(CONTEXT, 4), 1002 + a);
            C.due("nil: stack", m.stack(CONTEXT), 0);
        }
        for (int word : new int[] {0x24, 0x25, 0x21, 0x28, 0x29}) {
            MessageMachine m = done(prepared(), 0x25, word, 0x93);
            C.due("not nil: place", m.field(CONTEXT, 4), 1003);
            C.due("not nil: stack", m.stack(CONTEXT), 1);
        }
    }

    private static void forwardIfNilAboveSixteen() {
        C.sentence("and 9 if it was nil: [3] the place would be above 16");
        MessageMachine m = done(prepared(), 0x20, 0x9E);
        C.due("just 16", m.field(CONTEXT, 4), 1016);
        fails(3, 0x20, 0x9F);
        fails(3, 0x25, 0x20, 0x9E);
        m = done(prepared(), 0x25, 0x24, 0x9F);
        C.due("if it was not nil it does not fail", m.field(CONTEXT, 4), 1003);
        C.due("and pops", m.stack(CONTEXT), 1);
    }

    private static void back() {
        C.sentence("10: the place is less by a + 1 (counted from the place behind this byte)");
        for (int a = 0; a < 16; a++) {
            int[] bytes = new int[16];
            Arrays.fill(bytes, 0x80);
            bytes[15] = 0xA0 + a;
            MessageMachine m = done(prepared(), bytes);
            C.due("place", m.field(CONTEXT, 4), 1015 - a);
        }
        MessageMachine m = started(prepared(), 0xA0);
        C.due("onto itself", m.run(77), 77);
        m = started(prepared(), 0x27, 0xA1);
        C.due("till the stack is full", m.run(500), 12);
        C.due("reason", m.reason(), 1);
    }

    private static void backBelowZero() {
        C.sentence("10: [3] below 0");
        MessageMachine m = done(prepared(), 0x80, 0xA1);
        C.due("just 0", m.field(CONTEXT, 4), 1000);
        fails(3, 0xA1);
        fails(3, 0xAF);
        fails(3, 0x80, 0xA2);
        fails(3, 0x80, 0x80, 0xAF);
    }

    private static void returnTop() {
        C.sentence("11: RETURNS, for a 0 the top of the stack");
        answers(prepared(), 1002, 0x27, 0x26, 0xB0);
        answers(prepared(), 0, 0x20, 0xB0);
        answers(prepared(), CLASS, 0x29, 0xB0);
    }

    private static void returnReceiver() {
        C.sentence("11: for a 1 the receiver");
        answers(prepared(), INSTANCE, 0xB1);
        answers(prepared(), INSTANCE, 0x27, 0xB1);
        answers(onNil(), 0, 0xB1);
        answers(onNumber(), 1005, 0xB1);
    }

    private static void returnOther() {
        C.sentence("11: [3] other a");
        for (int a = 2; a < 16; a++) {
            fails(3, 0x25, 0xB0 + a);
            fails(3, 0xB0 + a);
            fails(3, sixNumbersAnd(0xB0 + a));
        }
    }

    private static void returnToSender() {
        C.sentence("The sender becomes active and gets the word pushed");
        MessageMachine m = prepared();
        Machines.code(m, 5, 3, 0x24, 0x27, 0xB0);
        started(m, 0x21, 0x22, 0x23, 0x24, 0x25, 0x28, 0x53);
        m.run(9);
        C.due("two contexts", m.alive(), 8);
        C.due("returns", m.run(1), 1);
        C.due("active", m.active(), CONTEXT);
        C.due("a sixth word", m.stack(CONTEXT), 6);
        C.due("the word", m.field(CONTEXT, 14), 1003);
        C.due("the context goes", m.alive(), 7);
        C.due("handle 0 as before", m.handle(0), 0);
        C.due("running", m.state(), 1);
        m = prepared();
        Machines.code(m, 5, 3, 0xB1);
        done(m, 0x28, 0x53);
        m.run(1);
        C.due("a receiver", m.field(CONTEXT, 9), INSTANCE);
    }

    private static void returnToNone() {
        C.sentence("If there is no sender, handle 0 holds the word, and the machine is idle");
        MessageMachine m = prepared();
        m.number(0, 5);
        answers(m, CONTEXT + 1, 0x29, 0xC0, 0xB0);
        C.due("only handle 0 holds it", m.count(CONTEXT + 1), 1);
        C.due("the context goes", m.classOf(CONTEXT), BAD);
        C.due("active", m.active(), 0);
        m = prepared();
        m.define(0, 1, 0);
        answers(m, 0, 0x20, 0xB0);
        C.due("what handle 0 held goes", m.alive(), 6);
    }

    private static void instance() {
        C.sentence("12: for a 0 pops a class, pushes a new instance of it, with nil in all fields");
        MessageMachine m = done(prepared(), 0x27, 0x29, 0xC0);
        C.due("stack", m.stack(CONTEXT), 2);
        C.due("word", m.field(CONTEXT, 10), CONTEXT + 1);
        C.due("class", m.classOf(CONTEXT + 1), CLASS);
        C.due("field 0", m.field(CONTEXT + 1, 0), 0);
        C.due("field 1", m.field(CONTEXT + 1, 1), 0);
        C.due("no field more", m.field(CONTEXT + 1, 2), BAD);
        m = withNumbers(1, 2);
        m.kind(1, 1);
        m.kind(2, 5);
        done(m, 0x2B, 0xC0, 0x2C, 0xC0);
        C.due("of class 2", m.classOf(CONTEXT + 1), 2);
        C.due("of class 1", m.classOf(CONTEXT + 2), 1);
    }

    private static void instanceWithAnOldNumber() {
        C.sentence("12: with nil in all fields (where another was before)");
        MessageMachine m = prepared();
        m.make(3, 5);
        m.store(3, 0, 4);
        m.store(3, 1, 5);
        started(m, 0x29, 0xC0);
        m.drop(3);
        C.due("bytes done", m.run(2), 2);
        C.due("the number again", m.field(CONTEXT + 1, 9), CONTEXT);
        C.due("field 0", m.field(CONTEXT, 0), 0);
        C.due("field 1", m.field(CONTEXT, 1), 0);
    }

    private static void instanceOther() {
        C.sentence("12: [3] other a");
        for (int a = 1; a < 16; a++) {
            fails(3, 0x29, 0xC0 + a);
            fails(3, 0xC0 + a);
            fails(3, sixNumbersAnd(0xC0 + a));
        }
    }

    private static void instanceOfNoClass() {
        C.sentence("12: [3] or it is no class");
        fails(3, 0x28, 0xC0);
        fails(3, 0x20, 0xC0);
        fails(3, 0x25, 0xC0);
        fails(BytesTest::onInstanceOfClassOne, 3, 0x28, 0xC0);
        fails(BytesTest::onInstanceOfClassOne, 3, 0x29, 0xC0, 0xC0);
    }

    private static void instanceWithoutRoom() {
        C.sentence("12: [4] no room");
        fails(() -> crowded(0), 4, 0x29, 0xC0);
        fails(() -> crowded(1), 4, 0x29, 0xC0, 0x29, 0xC0);
        MessageMachine m = done(crowded(1), 0x29, 0xC0);
        C.due("one place is room", m.field(26, 9), 27);
    }

    private static void topOnceMore() {
        C.sentence("13: for a 0 pushes the top once more");
        MessageMachine m = done(prepared(), 0x25, 0x2F, 0xD0);
        C.due("stack", m.stack(CONTEXT), 3);
        C.due("the word", m.field(CONTEXT, 11), CLASS);
        C.due("the one beneath", m.field(CONTEXT, 10), CLASS);
        answers(prepared(), 1006, 0x27, 0xD0, 0x70, 0xB0);
    }

    private static void popTop() {
        C.sentence("13: for a 1 pops");
        MessageMachine m = done(prepared(), 0x25, 0x2F, 0xD1);
        C.due("stack", m.stack(CONTEXT), 1);
        C.due("the field", m.field(CONTEXT, 10), 0);
        answers(prepared(), 1003, 0x27, 0x25, 0xD1, 0xB0);
    }

    private static void topOther() {
        C.sentence("13: [3] other a");
        for (int a = 2; a < 16; a++) {
            fails(3, 0x25, 0xD0 + a);
            fails(3, 0xD0 + a);
            fails(3, sixNumbersAnd(0xD0 + a));
        }
    }

    private static void fourteenAndFifteen() {
        C.sentence("14, 15: [3]");
        for (int code = 0xE0; code < 0x100; code++) {
            fails(3, code);
            fails(3, 0x25, code);
            fails(3, sixNumbersAnd(code));
        }
    }

    private static void placeSixteen() {
        C.sentence("A place 16 fails by 6 (before all)");
        for (int words = 0; words <= 6; words++) {
            int[] bytes = new int[16];
            Arrays.fill(bytes, 0x80);
            Arrays.fill(bytes, 0, words, 0x25);
            C.halts(words + " words", () -> done(prepared(), bytes), 6);
        }
        C.halts("jumped there", () -> done(prepared(), 0x8F), 6);
        C.halts("when all are alive", () -> done(crowded(0), 0x8F), 6);
    }

    private static void failingChangesNothing() {
        C.sentence("A byte that fails changes nothing (the place, too), and is no step");
        Supplier<MessageMachine> inner = () -> {
            MessageMachine m = Machines.running();
            Machines.code(m, 0, 4, 0x28, 0x24, 0x73);
            return m;
        };
        C.halts("in a context with a sender", inner, 3);
        MessageMachine m = inner.get();
        C.due("no byte is done", m.run(500), 0);
        C.due("place", m.field(9, 4), 1002);
    }

    private static void halted() {
        C.sentence("the machine is halted by that REASON, and its active context stays as it is");
        MessageMachine m = Machines.halted();
        C.due("state", m.state(), 2);
        C.due("reason", m.reason(), 3);
        C.due("active", m.active(), 8);
        C.due("place", m.field(8, 4), 1002);
        C.due("stack", m.stack(8), 2);
        C.due("its words", m.field(8, 10), 1003);
        Machines.code(m, 1, 3, 0x20, 0x20, 0x20);
        C.due("another method does not let it go on", m.run(500), 0);
        C.due("nor is there another reason", m.reason(), 3);
    }
}
