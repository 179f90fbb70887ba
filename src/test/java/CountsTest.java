/** Counts of holders: what is given back at the end of a step, what sticks, and what sweeping does to both. */
public final class CountsTest {
    private static final Checks C = new Checks();
    private static final int BAD = MessageMachine.BAD;

    public static void main(String[] args) {
        sixHandlesStick();
        fiveDoNot();
        stuckObjectsStay();
        sweepingUnsticks();
        sweepingKeepsThoseOfSix();
        nilIsCounted();
        classOneIsAlwaysStuck();
        classesOfInstances();
        classesOfContexts();
        chains();
        onlyTheEndOfAStepCounts();
        stuckByBytes();
        stuckRingsHoldOthers();
        numbersComeAgain();
        C.end();
    }

    private static MessageMachine withInstanceInHandles(int handles) {
        MessageMachine m = new MessageMachine();
        m.define(0, 5, 1);
        m.make(1, 0);
        for (int h = 0; h < handles; h++) {
            m.move(h, 1);
        }
        return m;
    }

    private static void sixHandlesStick() {
        MessageMachine m = withInstanceInHandles(6);
        C.due("six handles", m.count(5), 6);
        m.drop(0);
        C.due("one less is told as six", m.count(5), 6);
        for (int h = 1; h < 6; h++) {
            m.drop(h);
        }
        C.due("none, and stuck", m.count(5), 6);
        C.due("alive", m.alive(), 6);
        C.due("its class is held by it", m.count(4), 1);
    }

    private static void fiveDoNot() {
        MessageMachine m = withInstanceInHandles(5);
        C.due("five handles", m.count(5), 5);
        for (int h = 0; h < 5; h++) {
            C.due("told", m.count(5), 5 - h);
            m.drop(h);
        }
        C.due("gone, and its class", m.alive(), 4);
    }

    private static void stuckObjectsStay() {
        MessageMachine m = withInstanceInHandles(6);
        for (int h = 0; h < 6; h++) {
            m.number(h, h);
        }
        C.due("stays", m.classOf(5), 4);
        C.due("a new one gets another number", m.define(0, 0, 0), BAD);
        m.drop(5);
        C.due("a new one gets another number", m.define(0, 5, 0), 6);
        C.due("sweep gives it and its class back", m.sweep(), 2);
        C.due("then the least is free", m.define(1, 5, 0), 4);
    }

    private static void sweepingUnsticks() {
        MessageMachine m = withInstanceInHandles(6);
        for (int h = 1; h < 6; h++) {
            m.drop(h);
        }
        C.due("stuck", m.count(5), 6);
        C.due("none given back", m.sweep(), 0);
        C.due("one holder", m.count(5), 1);
        m.drop(0);
        C.due("given back", m.alive(), 4);
    }

    private static void sweepingKeepsThoseOfSix() {
        MessageMachine m = withInstanceInHandles(6);
        m.sweep();
        for (int h = 0; h < 6; h++) {
            m.drop(h);
        }
        C.due("stuck by six at the sweep", m.count(5), 6);
        C.due("alive", m.alive(), 6);
        C.due("swept", m.sweep(), 2);
    }

    private static void nilIsCounted() {
        MessageMachine m = new MessageMachine();
        for (int h = 0; h < 6; h++) {
            m.number(h, h);
        }
        C.due("stuck from the beginning", m.count(0), 6);
        m.sweep();
        C.due("held by class 1 and the active register", m.count(0), 2);
        m.drop(3);
        C.due("by a handle", m.count(0), 3);
        m.define(4, 3, 2);
        C.due("by a superclass", m.count(0), 4);
        m.make(5, 4);
        C.due("by two fields", m.count(0), 6);
        m.drop(5);
        C.due("stuck again", m.count(0), 6);
        m.number(4, 1);
        m.number(5, 1);
        C.due("still", m.count(0), 6);
        m.sweep();
        C.due("no more", m.count(0), 3);
        C.due("always alive", m.classOf(0), 1);
    }

    private static void classOneIsAlwaysStuck() {
        MessageMachine m = new MessageMachine();
        m.sweep();
        C.due("class 1", m.count(1), 6);
        C.due("class 2", m.count(2), 0);
        C.due("class 3", m.count(3), 0);
    }

    private static void classesOfInstances() {
        MessageMachine m = new MessageMachine();
        m.define(0, 5, 0);
        for (int h = 1; h < 5; h++) {
            m.make(h, 0);
        }
        C.due("four instances and a handle", m.count(4), 5);
        m.make(5, 0);
        C.due("five instances and a handle", m.count(4), 6);
        for (int h = 0; h < 6; h++) {
            m.drop(h);
        }
        C.due("the class is stuck", m.alive(), 5);
        C.due("told", m.count(4), 6);
        C.due("swept", m.sweep(), 1);
    }

    private static void classesOfContexts() {
        MessageMachine m = new MessageMachine();
        m.define(0, 5, 0);
        m.make(1, 0);
        Checks.code(m, 0, 0, 0x28, 0x50);
        m.send(1, 0);
        m.run(8);
        C.due("five contexts", m.count(3), 5);
        C.due("receivers", m.count(5), 6);
        C.due("found in", m.count(4), 6);
        m.run(2);
        C.due("six contexts", m.count(3), 6);
        m.abort();
        C.due("contexts are gone", m.alive(), 6);
        C.due("class 3 is stuck", m.count(3), 6);
        m.sweep();
        C.due("no more", m.count(3), 0);
        C.due("the receiver, too", m.count(5), 1);
        C.due("the class, too", m.count(4), 2);
    }

    private static void chains() {
        MessageMachine m = new MessageMachine();
        m.define(0, 5, 1);
        m.make(1, 0);
        for (int i = 0; i < 20; i++) {
            m.make(2, 0);
            m.store(2, 0, 1);
            m.move(1, 2);
        }
        m.drop(2);
        m.drop(0);
        C.due("a chain", m.alive(), 26);
        C.due("its class is stuck", m.count(4), 6);
        m.drop(1);
        C.due("all of it goes at once", m.alive(), 5);
        C.due("but the class", m.classOf(4), 1);
        C.due("sweep", m.sweep(), 1);
    }

    private static void onlyTheEndOfAStepCounts() {
        MessageMachine m = withInstanceInHandles(5);
        m.make(5, 5);
        m.number(5, 0);
        C.due("five", m.count(5), 5);
        m.move(0, 0);
        m.move(1, 4);
        C.due("five still", m.count(5), 5);
        // The word is in the stack of the context that goes, and in handle 0: never more than that at a step's end.
        m = new MessageMachine();
        m.define(0, 5, 0);
        m.make(1, 0);
        Checks.code(m, 0, 0, 0x28, 0xB0);
        m.move(2, 1);
        m.move(3, 1);
        m.send(1, 0);
        C.due("three handles and a receiver", m.count(5), 4);
        m.run(1);
        C.due("and a stack", m.count(5), 5);
        m.run(1);
        C.due("four handles", m.count(5), 4);
    }

    private static void stuckByBytes() {
        MessageMachine m = new MessageMachine();
        m.define(0, 5, 0);
        m.make(1, 0);
        Checks.code(m, 0, 0, 0x28, 0xD0, 0xD0, 0xD0, 0xD1, 0xD1, 0xD1, 0xD1, 0x25, 0xB0);
        m.send(1, 0);
        m.run(3);
        C.due("a handle, a receiver, three words", m.count(5), 5);
        m.run(1);
        C.due("four words", m.count(5), 6);
        m.run(500);
        C.due("stuck", m.count(5), 6);
        m.drop(1);
        C.due("stays", m.classOf(5), 4);
        m = new MessageMachine();
        m.define(0, 5, 0);
        Checks.code(m, 0, 0, 0x29, 0xC0, 0xD1, 0x29, 0xC0, 0xD1, 0xA6);
        m.make(1, 0);
        m.send(1, 0);
        C.due("instances that go at once take no room", m.run(500), 500);
        C.due("none is left", m.alive(), 7);
    }

    private static void stuckRingsHoldOthers() {
        MessageMachine m = new MessageMachine();
        m.define(0, 5, 6);
        m.make(1, 0);
        for (int k = 0; k < 5; k++) {
            m.store(1, k, 1);
        }
        C.due("held by itself and a handle", m.count(5), 6);
        m.make(2, 0);
        m.store(1, 5, 2);
        m.drop(2);
        m.store(1, 0, 4);
        m.drop(1);
        C.due("what it holds stays", m.count(6), 1);
        m.drop(0);
        C.due("sweep", m.sweep(), 3);
        C.due("gone", m.alive(), 4);
    }

    private static void numbersComeAgain() {
        MessageMachine m = withInstanceInHandles(6);
        for (int h = 0; h < 6; h++) {
            m.drop(h);
        }
        m.sweep();
        m.define(0, 5, 1);
        C.due("a new object isn't stuck", m.count(4), 1);
        m.make(1, 0);
        C.due("nor is this", m.count(5), 1);
        m.drop(1);
        C.due("given back", m.alive(), 5);
        m.make(1, 0);
        m.kind(2, 0);
        C.due("an instance of class 1", m.make(0, 2), 6);
        m.drop(1);
        C.due("classes and instances are gone", m.classOf(4), BAD);
        C.due("an instance where a class was", m.make(1, 2), 4);
        C.no("is no class", m.method(1, 0, 0, 0));
        C.due("has no field", m.field(4, 0), BAD);
    }
}
