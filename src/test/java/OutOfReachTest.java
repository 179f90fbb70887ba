import java.lang.reflect.Field;
import java.lang.reflect.Method;
import java.util.function.Supplier;

/**
 * What the document says of contexts and of class 3 in handles and as receivers. No run of calls and bytes
 * gets them there: words come from handles, fields of what handles hold, receivers and their classes, and
 * none of these is ever a context. So these tests put them into a handle from behind the face.
 */
public final class OutOfReachTest {
    private static final Checks C = new Checks();
    private static final int BAD = MessageMachine.BAD;

    public static void main(String[] args) {
        methodsOfClassThree();
        kindOfAContext();
        makeOfClassThree();
        makeOfAClassBelowThree();
        inheritOfClassThree();
        fetchFromAContext();
        storeIntoAContext();
        pushFieldOfAContext();
        popFieldOfAContext();
        instanceOfClassThree();
        C.end();
    }

    private static void put(MessageMachine m, int h, int word) {
        try {
            Field inside = MessageMachine.class.getDeclaredField("memory");
            inside.setAccessible(true);
            Object memory = inside.get(m);
            Method set = memory.getClass().getDeclaredMethod("setRegister", int.class, int.class);
            set.setAccessible(true);
            set.invoke(memory, h, word);
        } catch (ReflectiveOperationException e) {
            throw new IllegalStateException(e);
        }
    }

    /** As idle, but handle 5 holds class 3. */
    private static MessageMachine withClassThree() {
        MessageMachine m = Machines.idle();
        put(m, 5, 3);
        return m;
    }

    /** As running, but handle 5 holds the active context, 9. */
    private static MessageMachine withContext() {
        MessageMachine m = Machines.running();
        put(m, 5, 9);
        return m;
    }

    /** Context 9 is the receiver of a method of class 3 that has these bytes, all done but the last. */
    private static Supplier<MessageMachine> onContext(int... bytes) {
        return () -> {
            MessageMachine m = withContext();
            m.abort();
            m.kind(4, 5);
            Machines.code(m, 4, 0, bytes);
            m.send(5, 0);
            m.run(bytes.length - 1);
            return m;
        };
    }

    private static void methodsOfClassThree() {
        C.sentence("METHODS for some of the SELECTORS 0 .. 7 (1, 2 and 3, too)");
        MessageMachine m = withContext();
        m.kind(4, 5);
        C.yes("class 3", m.method(4, 7, 0xB1, 0));
        C.due("contexts have it", m.lookup(5, 7), 3);
        C.due("others don't", m.lookup(2, 7), 0);
    }

    private static void kindOfAContext() {
        C.sentence("A CONTEXT is an object of class 3");
        MessageMachine m = withContext();
        C.yes("kind", m.kind(4, 5));
        C.due("kind", m.handle(4), 3);
        m = onContext(0x29, 0xB0).get();
        C.due("returned", m.run(1), 1);
        C.due("the class of the receiver", m.handle(0), 3);
    }

    private static void makeOfClassThree() {
        C.sentence("BAD when c holds class 3 (make)");
        C.bad("class 3", OutOfReachTest::withClassThree, m -> m.make(4, 5));
        C.bad("named twice", OutOfReachTest::withClassThree, m -> m.make(5, 5));
    }

    private static void makeOfAClassBelowThree() {
        C.sentence("A CONTEXT is an object of class 3 (not of one below it)");
        MessageMachine m = withClassThree();
        C.due("a class below 3", m.define(4, 5, 2), 8);
        C.due("its superclass", m.field(8, 0), 3);
        C.due("its instance", m.make(5, 4), 7);
        C.due("fields", m.field(7, 1), 0);
        C.due("no field more", m.field(7, 2), BAD);
        C.due("it is no context", m.stack(7), BAD);
        C.yes("store", m.store(5, 1, 3));
        C.due("stored", m.field(7, 1), 1007);
    }

    private static void inheritOfClassThree() {
        C.sentence("(none of 1, 2, 3) (inherit)");
        C.refused("3 gets a class", OutOfReachTest::withClassThree, m -> m.inherit(5, 0));
        C.refused("3 gets itself", OutOfReachTest::withClassThree, m -> m.inherit(5, 5));
    }

    private static void fetchFromAContext() {
        C.sentence("(classes have one field, contexts 15) (fetch)");
        int[] due = {8, 6, 4, 1004, 1002, 1003, 0, 0, 0, 6, 1000, 0, 0, 0, 0};
        for (int k = 0; k < 15; k++) {
            MessageMachine m = withContext();
            C.yes("field " + k, m.fetch(4, 5, k));
            C.due("field " + k, m.handle(4), due[k]);
        }
        C.refused("field 15", OutOfReachTest::withContext, m -> m.fetch(4, 5, 15));
        C.refused("field -1", OutOfReachTest::withContext, m -> m.fetch(4, 5, -1));
    }

    private static void storeIntoAContext() {
        C.sentence("and when that object is a class or a context (store)");
        for (int k = -1; k < 16; k++) {
            int field = k;
            C.refused("field " + k, OutOfReachTest::withContext, m -> m.store(5, field, 3));
        }
    }

    private static void pushFieldOfAContext() {
        C.sentence("1: [3] or a context");
        for (int a = 0; a < 16; a++) {
            C.halts("field " + a, onContext(0x10 + a), 3);
        }
    }

    private static void popFieldOfAContext() {
        C.sentence("4: [3] as 1 (a context)");
        for (int a = 0; a < 16; a++) {
            C.halts("field " + a, onContext(0x25, 0x40 + a), 3);
        }
    }

    private static void instanceOfClassThree() {
        C.sentence("12: [3] or class 3");
        C.halts("class 3", onContext(0x29, 0xC0), 3);
    }
}
