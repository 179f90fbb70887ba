/** Every byte: what it does, the reasons by which it fails, and their order. */
public final class BytesTest {
    private static final Checks C = new Checks();
    private static final int BAD = MessageMachine.BAD;

    // In the machines of prepared(): handle 5 holds class 4, handle 4 its instance 5; contexts follow from 6 on.
    private static final int CLASS = 4;
    private static final int INSTANCE = 5;
    private static final int CONTEXT = 6;

    public static void main(String[] args) {
        temporaries();
        fields();
        fieldsOfOtherReceivers();
        otherWords();
        fullStack();
        emptyStack();
        calculations();
        comparisons();
        calculationsThatFail();
        jumps();
        jumpsIfNil();
        jumpsBack();
        behindTheMethod();
        sends();
        sendsThatFail();
        sendsAbove();
        sendsWithoutRoom();
        returns();
        instances();
        instancesWithoutRoom();
        topOnceMoreAndPop();
        bytesThatAreNone();
        C.end();
    }

    private static MessageMachine prepared() {
        MessageMachine m = new MessageMachine();
        m.define(5, 0, 2);
        m.make(4, 5);
        return m;
    }

    private static MessageMachine started(MessageMachine m, int... bytes) {
        Checks.code(m, 5, 0, bytes);
        C.yes("started", m.send(4, 0));
        return m;
    }

    private static void answers(MessageMachine m, int want, int... bytes) {
        answersAfter(m, bytes.length, want, bytes);
    }

    private static void answersAfter(MessageMachine m, int steps, int want, int... bytes) {
        started(m, bytes);
        String what = "bytes " + java.util.Arrays.toString(bytes);
        C.due(what + " done", m.run(500), steps);
        C.due(what + " state", m.state(), 0);
        C.due(what + " answer", m.handle(0), want);
    }

    /** All bytes but the last are done; the last fails, and changes nothing. */
    private static void fails(MessageMachine m, int reason, int... bytes) {
        started(m, bytes);
        String what = "bytes " + java.util.Arrays.toString(bytes);
        C.due(what + " done before", m.run(bytes.length - 1), bytes.length - 1);
        C.due(what + " state before", m.state(), 1);
        int[] before = picture(m);
        C.due(what + " fails", m.run(500), 0);
        C.due(what + " state", m.state(), 2);
        C.due(what + " reason", m.reason(), reason);
        C.yes(what + " changes nothing", java.util.Arrays.equals(before, picture(m)));
        C.due(what + " stays so", m.run(500), 0);
        C.due(what + " and so", m.reason(), reason);
    }

    /** What a failing byte could change; not all, since an object is used for 512 calls at most. */
    private static int[] picture(MessageMachine m) {
        int[] all = new int[47];
        int n = 0;
        for (int o = CLASS; o <= CONTEXT + 1; o++) {
            all[n++] = m.classOf(o);
            all[n++] = m.count(o);
        }
        for (int k = 0; k < 15; k++) {
            all[n++] = m.field(INSTANCE, k);
            all[n++] = m.field(CONTEXT, k);
        }
        for (int h = 0; h < 6; h++) {
            all[n++] = m.handle(h);
        }
        all[n++] = m.stack(CONTEXT);
        all[n++] = m.active();
        all[n++] = m.alive();
        return all;
    }

    private static void temporaries() {
        MessageMachine m = prepared();
        m.number(0, 70);
        m.number(1, 80);
        Checks.code(m, 5, 2, 0x00, 0x01, 0x02, 0x27, 0x32, 0x02, 0x03, 0x33, 0x30);
        m.move(2, 4);
        m.move(3, 0);
        m.move(4, 1);
        m.send(2, 2);
        int[] temporaries = {1070, 1080, 0, 0};
        for (int i = 0; i < 4; i++) {
            C.due("0 temporary " + i, m.field(CONTEXT, 5 + i), temporaries[i]);
        }
        m.run(3);
        C.due("0 first argument", m.field(CONTEXT, 9), 1070);
        C.due("0 second argument", m.field(CONTEXT, 10), 1080);
        C.due("0 nil", m.field(CONTEXT, 11), 0);
        C.due("0 place", m.field(CONTEXT, 4), 1003);
        m.run(2);
        C.due("3 popped", m.field(CONTEXT, 7), 1003);
        C.due("3 stack", m.stack(CONTEXT), 3);
        C.due("3 above the top is nil", m.field(CONTEXT, 12), 0);
        m.run(1);
        C.due("0 pushed", m.field(CONTEXT, 12), 1003);
        m.run(3);
        C.due("3 nil", m.field(CONTEXT, 8), 0);
        C.due("3 another", m.field(CONTEXT, 5), 1003);
        C.due("3 stack at the end", m.stack(CONTEXT), 3);
        for (int a = 4; a < 16; a++) {
            fails(prepared(), 3, a);
            fails(prepared(), 3, 0x20, 0x30 + a);
        }
    }

    private static void fields() {
        answers(prepared(), 0, 0x11, 0xB0);
        answers(prepared(), 1002, 0x26, 0x41, 0x27, 0x40, 0x11, 0xB0);
        answers(prepared(), 1003, 0x26, 0x41, 0x27, 0x40, 0x10, 0xB0);
        MessageMachine m = started(prepared(), 0x2F, 0x41);
        m.run(2);
        C.due("4 field", m.field(INSTANCE, 1), CLASS);
        C.due("4 stack", m.stack(CONTEXT), 0);
        C.due("4 popped word's place is nil", m.field(CONTEXT, 9), 0);
        for (int a = 2; a < 16; a++) {
            fails(prepared(), 3, 0x10 + a);
            fails(prepared(), 3, 0x20, 0x40 + a);
        }
    }

    private static void fieldsOfOtherReceivers() {
        MessageMachine m = prepared();
        m.kind(5, 5);
        m.move(4, 1);
        fails(m, 3, 0x10);
        m = prepared();
        m.kind(5, 5);
        m.move(4, 1);
        fails(m, 3, 0x20, 0x40);
        m = prepared();
        m.number(4, 5);
        m.kind(5, 4);
        fails(m, 3, 0x10);
        m = prepared();
        m.number(4, 5);
        m.kind(5, 4);
        fails(m, 3, 0x20, 0x40);
        m = prepared();
        m.define(4, 5, 6);
        m.kind(5, 4);
        answers(m, CLASS, 0x10, 0xB0);
        fails(m, 3, 0x11);
        m.abort();
        fails(m, 3, 0x20, 0x40);
        m.abort();
        fails(m, 3, 0x20, 0x41);
    }

    private static void otherWords() {
        int[] due = {0, 997, 998, 999, 1000, 1001, 1002, 1003, INSTANCE, CLASS, 1040, 1041, 1042, 1043, INSTANCE, CLASS};
        for (int a = 0; a < 16; a++) {
            MessageMachine m = prepared();
            for (int h = 0; h < 4; h++) {
                m.number(h, 40 + h);
            }
            answers(m, due[a], 0x20 + a, 0xB0);
        }
        MessageMachine m = prepared();
        m.number(4, 9);
        m.kind(5, 4);
        answers(m, 2, 0x29, 0xB0);
        answers(m, 1009, 0x28, 0xB0);
        m = prepared();
        m.move(4, 5);
        m.kind(5, 4);
        answers(m, 1, 0x29, 0xB0);
    }

    private static int[] sixAnd(int last) {
        return new int[] {0x21, 0x22, 0x23, 0x24, 0x25, 0x26, last};
    }

    private static void fullStack() {
        for (int a = 0; a < 16; a++) {
            fails(prepared(), 1, sixAnd(a));
            fails(prepared(), 1, sixAnd(0x10 + a));
            fails(prepared(), 1, sixAnd(0x20 + a));
        }
        fails(prepared(), 1, sixAnd(0xD0));
        int[] suitable = {0x30, 0x40, 0x70, 0x80, 0x90, 0xA0, 0xB0, 0xB1, 0xD1};
        for (int code : suitable) {
            MessageMachine m = started(prepared(), sixAnd(code));
            C.due("six words suit " + code, m.run(7), 7);
        }
        MessageMachine m = started(prepared(), 0x21, 0x22, 0x23, 0x24, 0x25, 0x2F, 0xC0);
        C.due("12 pops first", m.run(7), 7);
        C.due("12 is full again", m.stack(CONTEXT), 6);
    }

    private static void emptyStack() {
        for (int a = 0; a < 16; a++) {
            fails(prepared(), 1, 0x30 + a);
            fails(prepared(), 1, 0x40 + a);
            fails(prepared(), 1, 0x50 + a);
            fails(prepared(), 1, 0x60 + a);
            fails(prepared(), 1, 0x70 + a);
            fails(prepared(), 1, 0x25, 0x70 + a);
            fails(prepared(), 1, 0x90 + a);
            if (a % 3 > 0) {
                fails(prepared(), 1, 0x28, 0x50 + a);
                fails(prepared(), 1, 0x28, 0x60 + a);
            }
            if (a % 3 > 1) {
                fails(prepared(), 1, 0x28, 0x28, 0x50 + a);
                fails(prepared(), 1, 0x28, 0x28, 0x60 + a);
            }
        }
        fails(prepared(), 1, 0xB0);
        fails(prepared(), 1, 0xC0);
        fails(prepared(), 1, 0xD0);
        fails(prepared(), 1, 0xD1);
        // These name no word of the stack, so that only what is named with them is wrong.
        for (int a = 2; a < 16; a++) {
            fails(prepared(), 3, 0xB0 + a);
            fails(prepared(), 3, 0xC0 + a);
            fails(prepared(), 3, 0xD0 + a);
        }
        fails(prepared(), 3, 0xC1);
    }

    private static MessageMachine withNumbers(int x, int y) {
        MessageMachine m = prepared();
        m.number(1, x);
        m.number(2, y);
        return m;
    }

    private static void calculates(int x, int y, int a, int want) {
        answers(withNumbers(x, y), want, 0x2B, 0x2C, 0x70 + a, 0xB0);
    }

    private static void tooGreat(int x, int y, int a) {
        fails(withNumbers(x, y), 5, 0x2B, 0x2C, 0x70 + a);
    }

    private static void calculations() {
        calculates(20, 3, 0, 1023);
        calculates(20, 3, 1, 1017);
        calculates(20, -3, 2, 940);
        calculates(510, 1, 0, 1511);
        calculates(-511, -1, 0, 488);
        calculates(-511, 1, 1, 488);
        calculates(510, -1, 1, 1511);
        calculates(-256, 2, 2, 488);
        calculates(73, 7, 2, 1511);
        calculates(-512, 0, 2, 1000);
        tooGreat(511, 1, 0);
        tooGreat(-512, -1, 0);
        tooGreat(511, 511, 0);
        tooGreat(-512, 1, 1);
        tooGreat(511, -1, 1);
        tooGreat(-512, 511, 1);
        tooGreat(256, 2, 2);
        tooGreat(-171, 3, 2);
        tooGreat(-512, -512, 2);
        tooGreat(-512, 511, 2);
        MessageMachine m = started(withNumbers(4, 5), 0x27, 0x2B, 0x2C, 0x70);
        m.run(4);
        C.due("7 stack", m.stack(CONTEXT), 2);
        C.due("7 beneath", m.field(CONTEXT, 9), 1003);
        C.due("7 result", m.field(CONTEXT, 10), 1009);
        C.due("7 above", m.field(CONTEXT, 11), 0);
    }

    private static void comparisons() {
        calculates(-512, 511, 3, 1001);
        calculates(511, -512, 3, 0);
        calculates(4, 4, 3, 0);
        calculates(3, 4, 3, 1001);
        calculates(4, 4, 4, 1001);
        calculates(4, 5, 4, 0);
        answers(prepared(), 1001, 0x28, 0x2E, 0x74, 0xB0);
        answers(prepared(), 0, 0x28, 0x2F, 0x74, 0xB0);
        answers(prepared(), 1001, 0x20, 0x20, 0x74, 0xB0);
        answers(prepared(), 0, 0x20, 0x24, 0x74, 0xB0);
    }

    private static void calculationsThatFail() {
        for (int a = 0; a < 4; a++) {
            fails(prepared(), 3, 0x25, 0x20, 0x70 + a);
            fails(prepared(), 3, 0x28, 0x25, 0x70 + a);
            fails(prepared(), 3, 0x20, 0x20, 0x70 + a);
        }
        for (int a = 5; a < 16; a++) {
            fails(prepared(), 3, 0x25, 0x25, 0x70 + a);
        }
    }

    private static void jumps() {
        MessageMachine m = started(prepared(), 0x82, 0xF0, 0xF0, 0x27, 0xB0);
        C.due("8 over two", m.run(500), 3);
        C.due("8 answer", m.handle(0), 1003);
        m = started(prepared(), 0x80, 0x8D, 0xF0);
        C.due("8 to 15", m.run(2), 2);
        C.due("8 place 15", m.field(CONTEXT, 4), 1015);
        m = started(prepared(), 0x8F);
        C.due("8 to 16", m.run(1), 1);
        C.due("8 place 16", m.field(CONTEXT, 4), 1016);
        m.run(1);
        C.due("8 behind it", m.reason(), 6);
        fails(prepared(), 3, 0x20, 0x8F);
        fails(prepared(), 3, 0x20, 0x20, 0x8E);
        MessageMachine last = started(prepared(), 0x8E, 0, 0, 0, 0, 0, 0, 0, 0, 0, 0, 0, 0, 0, 0, 0x81);
        C.due("8 up to the last", last.run(500), 1);
        C.due("8 the last can't", last.reason(), 3);
    }

    private static void jumpsIfNil() {
        MessageMachine m = started(prepared(), 0x25, 0x20, 0x92, 0xF0, 0xF0, 0xB0);
        C.due("9 nil jumps", m.run(500), 4);
        C.due("9 popped", m.handle(0), 1001);
        answers(prepared(), 1001, 0x25, 0x24, 0x9F, 0xB0);
        answers(prepared(), 1001, 0x25, 0x28, 0x9F, 0xB0);
        m = started(prepared(), 0x20, 0x9E);
        C.due("9 to 16", m.run(500), 2);
        C.due("9 place 16", m.reason(), 6);
        C.due("9 empty then", m.stack(CONTEXT), 0);
        fails(prepared(), 3, 0x20, 0x9F);
        fails(prepared(), 3, 0x25, 0x20, 0x9E);
        answers(prepared(), 1001, 0x25, 0x20, 0x90, 0xB0);
    }

    private static void jumpsBack() {
        MessageMachine m = started(prepared(), 0x27, 0xA1);
        C.due("10 fills the stack", m.run(500), 12);
        C.due("10 till it is full", m.reason(), 1);
        C.due("10 place", m.field(CONTEXT, 4), 1000);
        m = started(prepared(), 0xA0);
        C.due("10 onto itself", m.run(77), 77);
        C.due("10 place 0", m.field(CONTEXT, 4), 1000);
        fails(prepared(), 3, 0xA1);
        fails(prepared(), 3, 0x20, 0xA2);
        fails(prepared(), 3, 0x20, 0x20, 0xAF);
        m = started(prepared(), 0x20, 0x8D, 0, 0, 0, 0, 0, 0, 0, 0, 0, 0, 0, 0, 0, 0xAF);
        C.due("10 from the last to the first", m.run(3), 3);
        C.due("10 place 0 too", m.field(CONTEXT, 4), 1000);
    }

    private static void behindTheMethod() {
        int[] sixteen = new int[16];
        java.util.Arrays.fill(sixteen, 0x80);
        MessageMachine m = started(prepared(), sixteen);
        C.due("6 all done", m.run(500), 16);
        C.due("6 reason", m.reason(), 6);
        C.due("6 place", m.field(CONTEXT, 4), 1016);
        m = started(prepared(), sixteen);
        m.run(16);
        C.due("6 running still", m.state(), 1);
        C.due("6 no step", m.run(1), 0);
        C.due("6 halted", m.state(), 2);
    }

    private static void sends() {
        MessageMachine m = prepared();
        Checks.code(m, 5, 5, 0xB1);
        started(m, 0x27, 0x28, 0x25, 0x26, 0x55, 0xB0);
        C.due("5 sends", m.run(5), 5);
        C.due("5 active", m.active(), CONTEXT + 1);
        int[] due = {CONTEXT, INSTANCE, CLASS, 1005, 1000, 1001, 1002, 0, 0, 0, 0, 0, 0, 0, 0, BAD};
        for (int k = 0; k < due.length; k++) {
            C.due("5 field " + k, m.field(CONTEXT + 1, k), due[k]);
        }
        C.due("5 stack", m.stack(CONTEXT + 1), 0);
        C.due("5 popped", m.stack(CONTEXT), 1);
        C.due("5 beneath", m.field(CONTEXT, 9), 1003);
        for (int k = 10; k < 15; k++) {
            C.due("5 nil above", m.field(CONTEXT, k), 0);
        }
        C.due("5 place", m.field(CONTEXT, 4), 1005);
        C.due("5 context held by the one above", m.count(CONTEXT), 1);
        m = prepared();
        Checks.code(m, 5, 4, 0x00, 0xB0);
        answersAfter(m, 6, 1002, 0x28, 0x26, 0x54, 0xB0);
        m = prepared();
        m.number(0, 8);
        m.kind(0, 0);
        Checks.code(m, 0, 3, 0x28, 0x27, 0x70, 0xB0);
        answersAfter(m, 7, 1006, 0x27, 0x53, 0xB0);
        Checks.code(m, 5, 7, 0xB1);
        fails(m, 2, 0x27, 0x27, 0x57);
    }

    private static void sendsThatFail() {
        for (int a = 8; a < 16; a++) {
            fails(prepared(), 3, 0x28, 0x28, 0x28, 0x50 + a);
            fails(prepared(), 3, 0x28, 0x28, 0x28, 0x60 + a);
        }
        for (int a = 1; a < 8; a++) {
            fails(prepared(), 2, 0x28, 0x28, 0x28, 0x50 + a);
            fails(prepared(), 2, 0x28, 0x28, 0x28, 0x60 + a);
        }
        fails(prepared(), 2, 0x20, 0x50);
        fails(prepared(), 2, 0x24, 0x50);
        fails(prepared(), 2, 0x2F, 0x50);
    }

    private static void sendsAbove() {
        MessageMachine m = prepared();
        Checks.code(m, 5, 1, 0x27, 0xB0);
        m.define(0, 5, 2);
        Checks.code(m, 0, 1, 0x26, 0xB0);
        Checks.code(m, 0, 0, 0x28, 0x20, 0x61, 0xB0);
        m.define(1, 0, 2);
        Checks.code(m, 1, 1, 0x25, 0xB0);
        m.make(2, 1);
        m.send(2, 0);
        C.due("6 found above the class of the method", m.run(3), 3);
        C.due("6 found in", m.field(m.active(), 2), CLASS);
        C.due("6 receiver", m.field(m.active(), 1), m.handle(2));
        m.run(3);
        C.due("6 answer", m.handle(0), 1003);
        m.fetch(0, 1, 0);
        Checks.code(m, 0, 1, 0x28, 0x20, 0x61, 0xB0);
        C.yes("6 once more", m.send(2, 0));
        m.run(2);
        m.inherit(0, 3);
        C.due("6 superclass nil now", m.run(1), 0);
        C.due("6 no method", m.reason(), 2);
        m = prepared();
        fails(m, 2, 0x28, 0x60);
        m.abort();
        Checks.code(m, 5, 3, 0x28, 0xB0);
        fails(m, 2, 0x28, 0x63);
        m = prepared();
        m.define(0, 5, 0);
        Checks.code(m, 5, 3, 0x28, 0xB0);
        Checks.code(m, 0, 0, 0x27, 0x63, 0xB0);
        m.make(1, 0);
        m.send(1, 0);
        C.due("6 whatever the class of the receiver", m.run(500), 5);
        C.due("6 number", m.handle(0), 1003);
    }

    private static void sendsWithoutRoom() {
        MessageMachine m = started(prepared(), 0x28, 0x50);
        C.due("5 contexts take all the room", m.run(500), 43);
        C.due("5 no room", m.reason(), 4);
        C.due("5 full", m.alive(), 28);
        C.due("5 the last one", m.active(), 27);
        C.due("5 its stack", m.stack(27), 1);
        C.due("5 its place", m.field(27, 4), 1001);
        C.yes("5 abort", m.abort());
        C.due("5 all given back", m.alive(), 6);
        m = prepared();
        Checks.code(m, 5, 3, 0x28, 0x63);
        started(m, 0x28, 0x50);
        m.run(43);
        Checks.code(m, 5, 0, 0x28, 0x51);
        C.due("5 too few words before no room", m.run(1), 0);
        C.due("5 by 1", m.reason(), 1);
        m = prepared();
        started(m, 0x28, 0x50);
        m.run(43);
        Checks.code(m, 5, 0, 0x28, 0x53);
        m.run(1);
        C.due("5 no method before no room", m.reason(), 2);
    }

    private static void returns() {
        answers(prepared(), INSTANCE, 0xB1);
        answers(prepared(), INSTANCE, 0x27, 0xB1);
        answers(prepared(), 1002, 0x27, 0x26, 0xB0);
        MessageMachine m = prepared();
        Checks.code(m, 5, 3, 0x24, 0x27, 0xB0);
        started(m, 0x21, 0x22, 0x23, 0x24, 0x25, 0x28, 0x53);
        m.run(9);
        C.due("11 two contexts", m.alive(), 8);
        C.due("11 returns", m.run(1), 1);
        C.due("11 sender is active", m.active(), CONTEXT);
        C.due("11 pushed onto five", m.stack(CONTEXT), 6);
        C.due("11 word", m.field(CONTEXT, 14), 1003);
        C.due("11 context goes", m.alive(), 7);
        C.due("11 handle 0 as before", m.handle(0), 0);
        m = prepared();
        started(m, 0x29, 0xC0, 0xB0);
        m.run(500);
        C.due("11 only handle 0 holds it", m.count(m.handle(0)), 1);
        C.due("11 it is alive", m.classOf(m.handle(0)), CLASS);
    }

    private static void instances() {
        MessageMachine m = started(prepared(), 0x27, 0x29, 0xC0);
        C.due("12 done", m.run(3), 3);
        C.due("12 stack", m.stack(CONTEXT), 2);
        C.due("12 word", m.field(CONTEXT, 10), CONTEXT + 1);
        C.due("12 class", m.classOf(CONTEXT + 1), CLASS);
        C.due("12 field", m.field(CONTEXT + 1, 1), 0);
        C.due("12 no field", m.field(CONTEXT + 1, 2), BAD);
        fails(prepared(), 3, 0x28, 0xC0);
        fails(prepared(), 3, 0x20, 0xC0);
        fails(prepared(), 3, 0x25, 0xC0);
        for (int a = 1; a < 16; a++) {
            fails(prepared(), 3, 0x29, 0xC0 + a);
        }
        m = prepared();
        m.kind(1, 5);
        started(m, 0x2B, 0xC0, 0xC0);
        C.due("12 of class 1", m.run(2), 2);
        C.due("12 that is no class", m.run(1), 0);
        C.due("12 by 3", m.reason(), 3);
        m = prepared();
        m.kind(1, 5);
        m.define(2, 1, 3);
        m.number(1, 1);
        m.kind(1, 1);
        started(m, 0x2B, 0xC0, 0x2C, 0xC0, 0xB0);
        C.due("12 of class 2, and of one below 1", m.run(500), 5);
        C.due("12 three fields", m.field(m.handle(0), 2), 0);
    }

    private static void instancesWithoutRoom() {
        // Each instance is put into a field of the newest one's maker, and holds the one before it.
        MessageMachine m = prepared();
        Checks.code(m, 5, 1, 0x00, 0x40, 0xB1);
        started(m, 0x29, 0xC0, 0x10, 0x51, 0x40, 0xA5);
        int done = m.run(500);
        C.yes("12 some done", done > 0);
        C.due("12 halted", m.state(), 2);
        C.due("12 no room", m.reason(), 4);
        C.due("12 full", m.alive(), 28);
        m = new MessageMachine();
        for (int i = 0; i < 23; i++) {
            m.define(0, 0, 0);
        }
        Checks.code(m, 0, 0, 0x28, 0xC0);
        m.kind(1, 0);
        Checks.code(m, 1, 0, 0x28, 0xC0);
        m.send(0, 0);
        C.due("12 full room", m.alive(), 28);
        C.due("12 one byte", m.run(500), 1);
        C.due("12 no room for it", m.reason(), 4);
        m.abort();
        Checks.code(m, 1, 0, 0x20, 0xC0);
        m.send(0, 0);
        m.run(500);
        C.due("12 no class before no room", m.reason(), 3);
    }

    private static void topOnceMoreAndPop() {
        answers(prepared(), 1006, 0x27, 0xD0, 0x70, 0xB0);
        answers(prepared(), 1003, 0x27, 0x25, 0xD1, 0xB0);
        MessageMachine m = started(prepared(), 0x2F, 0xD0, 0xD0, 0xD1);
        m.run(3);
        C.due("13 stack", m.stack(CONTEXT), 3);
        m.run(1);
        C.due("13 popped", m.stack(CONTEXT), 2);
        C.due("13 nil above", m.field(CONTEXT, 11), 0);
        for (int a = 2; a < 16; a++) {
            fails(prepared(), 3, 0x25, 0xD0 + a);
            fails(prepared(), 3, sixAnd(0xD0 + a));
        }
    }

    private static void bytesThatAreNone() {
        for (int code = 0xE0; code < 0x100; code++) {
            fails(prepared(), 3, code);
            fails(prepared(), 3, 0x25, code);
            fails(prepared(), 3, sixAnd(code));
        }
    }
}
