/** Counts the answers that are not as due, and puts methods together from bytes. */
final class Checks {
    private int looked = 0;
    private int wrong = 0;

    void due(String what, long got, long want) {
        looked++;
        if (got != want) {
            wrong++;
            System.out.println(what + " answered " + got + ", due is " + want);
        }
    }

    void yes(String what, boolean got) {
        due(what, got ? 1 : 0, 1);
    }

    void no(String what, boolean got) {
        due(what, got ? 1 : 0, 0);
    }

    void end() {
        System.out.println(looked + " answers looked at, " + wrong + " wrong");
        if (wrong != 0) {
            System.exit(1);
        }
    }

    /** Gives the class in handle c a method; bytes that are not named are 0xF0, which always fails. */
    static boolean code(MessageMachine m, int c, int selector, int... bytes) {
        return m.method(c, selector, half(bytes, 0), half(bytes, 8));
    }

    static long half(int[] bytes, int from) {
        long half = 0;
        for (int i = 0; i < 8; i++) {
            long value = from + i < bytes.length ? bytes[from + i] : 0xF0;
            half |= value << 8 * i;
        }
        return half;
    }
}
