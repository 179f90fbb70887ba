import java.util.ArrayList;
import java.util.List;

/**
 * All that the face tells of a machine, and how it goes on. It is looked at in parts, each of a machine of its
 * own that was made alike, since the document promises nothing behind the 512th call of an object.
 */
final class Look {
    static final int PARTS = 6;
    static final int PARTS_BUT_CONDITION = 3;

    private Look() {
    }

    /** Every answer of a part of the look, with the call that gave it, always in the same order. */
    static List<String> at(int part, MessageMachine m) {
        List<String> seen = new ArrayList<>();
        switch (part) {
            case 0 -> words(m, seen);
            case 1 -> fields(m, 0, 14, seen);
            case 2 -> fields(m, 14, 28, seen);
            case 3 -> condition(m, seen);
            case 4 -> goingOn(m, seen);
            default -> methods(m, seen);
        }
        return seen;
    }

    private static void words(MessageMachine m, List<String> seen) {
        seen.add("active " + m.active());
        seen.add("alive " + m.alive());
        for (int h = 0; h < 6; h++) {
            seen.add("handle " + h + " " + m.handle(h));
            for (int s = 0; s < 8; s++) {
                seen.add("lookup " + h + " " + s + " " + m.lookup(h, s));
            }
        }
        for (int o = 0; o < 28; o++) {
            seen.add("classOf " + o + " " + m.classOf(o));
            seen.add("count " + o + " " + m.count(o));
            seen.add("stack " + o + " " + m.stack(o));
        }
    }

    private static void fields(MessageMachine m, int from, int to, List<String> seen) {
        for (int o = from; o < to; o++) {
            for (int k = 0; k < 16; k++) {
                seen.add("field " + o + " " + k + " " + m.field(o, k));
            }
        }
    }

    private static void condition(MessageMachine m, List<String> seen) {
        seen.add("state " + m.state());
        seen.add("reason " + m.reason());
    }

    /** Running on, and the sizes of classes, which no call tells but by what is made of them. */
    private static void goingOn(MessageMachine m, List<String> seen) {
        seen.add("run " + m.run(500));
        condition(m, seen);
        words(m, seen);
        m.abort();
        for (int h = 0; h < 6; h++) {
            int made = m.make(h, h);
            seen.add("make " + h + " " + made);
            for (int k = 0; k < 7; k++) {
                seen.add("field " + k + " of it " + m.field(made, k));
            }
        }
        seen.add("sweep " + m.sweep());
        for (int o = 0; o < 28; o++) {
            seen.add("count " + o + " behind a sweep " + m.count(o));
        }
    }

    /** The bytes of methods are told only by what they do. */
    private static void methods(MessageMachine m, List<String> seen) {
        m.abort();
        for (int h = 5; h >= 0; h--) {
            for (int s = 0; s < 8; s++) {
                String call = " of " + h + " " + s + " ";
                seen.add("send" + call + m.send(h, s));
                seen.add("run" + call + m.run(50));
                seen.add("reason" + call + m.reason());
                seen.add("handle 0 behind that" + call + m.handle(0));
                seen.add("abort" + call + m.abort());
            }
        }
    }
}
