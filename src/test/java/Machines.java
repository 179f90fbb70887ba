import java.util.List;
import java.util.function.Supplier;

/** Machines in the states that a test may want to begin with, and the arguments that are wrong in all of them. */
final class Machines {
    static final int[] WRONG_HANDLES = {-1, 6, 7, 1000, Integer.MIN_VALUE, Integer.MAX_VALUE};
    static final int[] WRONG_SELECTORS = {-1, 8, 9, Integer.MIN_VALUE, Integer.MAX_VALUE};
    static final int[] WRONG_OBJECTS = {-1, 28, 29, 488, 1000, 1005, Integer.MIN_VALUE, Integer.MAX_VALUE};

    static final List<Supplier<MessageMachine>> ALL =
        List.of(MessageMachine::new, Machines::idle, Machines::running, Machines::halted, Machines::full);

    private Machines() {
    }

    /**
     * Handle 0 holds class 4, of size 2; handle 1 class 5 below it, of size 3; handle 2 instance 6 of class 5,
     * with itself, a number and nil in its fields; handle 3 number 7; handle 4 instance 7 of class 1, which has
     * the class that classes have but is none; handle 5 nil.
     */
    static MessageMachine idle() {
        MessageMachine m = new MessageMachine();
        m.define(0, 5, 2);
        m.define(1, 0, 3);
        m.make(2, 1);
        m.number(3, 7);
        m.kind(4, 5);
        m.make(4, 4);
        m.store(2, 0, 2);
        m.store(2, 1, 3);
        code(m, 0, 0, 0x26, 0x28, 0x27, 0x54, 0x70, 0xB0);
        code(m, 0, 4, 0x28, 0x24, 0x00, 0x25, 0x70, 0xB0);
        code(m, 1, 3, 0x20, 0x27, 0x70);
        return m;
    }

    /** Two contexts, 8 and 9, with words on both stacks. */
    static MessageMachine running() {
        MessageMachine m = idle();
        m.send(2, 0);
        m.run(6);
        return m;
    }

    /** Context 8 could not add nil and a number: its reason is 3. */
    static MessageMachine halted() {
        MessageMachine m = idle();
        m.send(2, 3);
        m.run(500);
        return m;
    }

    /** As idle, but handle 1 holds the last one, 27, of a chain of classes that take all the room. */
    static MessageMachine full() {
        MessageMachine m = idle();
        for (int o = 8; o < 28; o++) {
            m.define(1, 1, 1);
        }
        return m;
    }

    /** Gives the class in handle c a method; bytes that are not named are 0xF0, which always fails. */
    static boolean code(MessageMachine m, int c, int selector, int... bytes) {
        return m.method(c, selector, half(bytes, 0), half(bytes, 8));
    }

    static long half(int[] bytes, int from) {
        long half = 0;
        for (int i = 0; i < 8; i++) {
            long value = from + i < bytes.length ? bytes[from + i] : 0xF0;
            half |= value << 8 * i;
        }
        return half;
    }
}
