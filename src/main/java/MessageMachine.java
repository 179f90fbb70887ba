/**
 * A machine whose programs send messages to objects: classes, contexts and numbers are words of one
 * object memory, methods are looked up along superclasses, and objects are given back by counts of
 * what holds them, which stick when they get too great.
 */
public final class MessageMachine {
    public static final int BAD = -1;

    private static final int OBJECTS = 28;
    private static final int NIL = 0;
    private static final int OBJECT = 1;
    private static final int NUMBER = 2;
    private static final int CONTEXT = 3;
    private static final int FIRST_MORTAL = 4;

    // Objects are told below OBJECTS and numbers from ZERO + LEAST on, so one int tells any word.
    private static final int ZERO = 1000;
    private static final int LEAST = -512;
    private static final int GREATEST = 511;

    private static final int HANDLES = 6;
    private static final int SELECTORS = 8;
    private static final int GREATEST_SIZE = 6;
    private static final int STICKING = 6;
    private static final int MOST_BYTES = 500;

    // The active register stands behind the handles, since it holds a word just as they do.
    private static final int ACTIVE = HANDLES;
    private static final int REGISTERS = HANDLES + 1;

    private static final int SUPERCLASS = 0;
    private static final int CLASS_FIELDS = 1;

    private static final int SENDER = 0;
    private static final int RECEIVER = 1;
    private static final int FOUND_IN = 2;
    private static final int SELECTOR = 3;
    private static final int PLACE = 4;
    private static final int TEMPORARY = 5;
    private static final int TEMPORARIES = 4;
    private static final int STACK = 9;
    private static final int STACK_WORDS = 6;
    private static final int CONTEXT_FIELDS = 15;

    private static final int METHOD_BYTES = 16;

    private static final int IDLE = 0;
    private static final int RUNNING = 1;
    private static final int HALTED = 2;

    private static final int DONE = 0;
    private static final int WRONG_STACK = 1;
    private static final int NO_METHOD = 2;
    private static final int NOT_ALLOWED = 3;
    private static final int NO_ROOM = 4;
    private static final int NO_SUCH_NUMBER = 5;
    private static final int BEHIND_METHOD = 6;

    private final Memory memory;
    private final Methods methods;
    private final Processor processor;

    public MessageMachine() {
        memory = new Memory();
        methods = new Methods();
        processor = new Processor(memory, methods);
    }

    public int define(int h, int s, int size) {
        if (!isHandle(h) || !isHandle(s) || size < 0 || size > GREATEST_SIZE) {
            return BAD;
        }
        if (!memory.isClassOrNil(memory.register(s))) {
            return BAD;
        }
        int made = memory.newClass(memory.register(s), size);
        if (made == BAD) {
            return BAD;
        }
        methods.forget(made);
        giveHandle(h, made);
        return made;
    }

    public boolean method(int c, int selector, long low, long high) {
        if (!holdsClass(c) || !isSelector(selector)) {
            return false;
        }
        methods.keep(memory.register(c), selector, low, high);
        return true;
    }

    public int make(int h, int c) {
        if (!isHandle(h) || !holdsClass(c) || memory.register(c) == CONTEXT) {
            return BAD;
        }
        int made = memory.newInstance(memory.register(c));
        if (made == BAD) {
            return BAD;
        }
        giveHandle(h, made);
        return made;
    }

    public boolean number(int h, int v) {
        if (!isHandle(h) || v < LEAST || v > GREATEST) {
            return false;
        }
        giveHandle(h, ZERO + v);
        return true;
    }

    public boolean move(int h, int g) {
        if (!isHandle(h) || !isHandle(g)) {
            return false;
        }
        giveHandle(h, memory.register(g));
        return true;
    }

    public boolean drop(int h) {
        if (!isHandle(h)) {
            return false;
        }
        giveHandle(h, NIL);
        return true;
    }

    public boolean fetch(int h, int g, int k) {
        if (!isHandle(h) || !isHandle(g) || !memory.hasField(memory.register(g), k)) {
            return false;
        }
        giveHandle(h, memory.fieldOf(memory.register(g), k));
        return true;
    }

    public boolean kind(int h, int g) {
        if (!isHandle(h) || !isHandle(g)) {
            return false;
        }
        giveHandle(h, memory.classOfWord(memory.register(g)));
        return true;
    }

    public boolean store(int g, int k, int h) {
        if (!isHandle(h) || !isHandle(g) || !memory.hasFreeField(memory.register(g), k)) {
            return false;
        }
        memory.setField(memory.register(g), k, memory.register(h));
        memory.settle();
        return true;
    }

    public boolean inherit(int c, int s) {
        if (!holdsClass(c) || !isHandle(s)) {
            return false;
        }
        int below = memory.register(c);
        int above = memory.register(s);
        if (below < FIRST_MORTAL || !memory.isClassOrNil(above) || memory.isAmongSuperclasses(below, above)) {
            return false;
        }
        memory.setField(below, SUPERCLASS, above);
        memory.settle();
        return true;
    }

    public boolean send(int h, int selector) {
        if (processor.condition() != IDLE || !isHandle(h) || !isSelector(selector)) {
            return false;
        }
        return processor.start(h, selector);
    }

    public int run(int n) {
        if (n < 0 || n > MOST_BYTES) {
            return BAD;
        }
        int done = 0;
        while (done < n && processor.condition() == RUNNING && processor.doByte()) {
            done++;
        }
        return done;
    }

    public boolean abort() {
        if (processor.condition() == IDLE) {
            return false;
        }
        processor.stop();
        return true;
    }

    public int sweep() {
        return memory.giveBackUnreached();
    }

    public int state() {
        return processor.condition();
    }

    public int reason() {
        return processor.whyHalted();
    }

    public int active() {
        return memory.register(ACTIVE);
    }

    public int stack(int o) {
        return memory.isContext(o) ? memory.depthOf(o) : BAD;
    }

    public int handle(int h) {
        return isHandle(h) ? memory.register(h) : BAD;
    }

    public int field(int o, int k) {
        return memory.hasField(o, k) ? memory.fieldOf(o, k) : BAD;
    }

    public int classOf(int o) {
        return memory.isAlive(o) ? memory.classOfWord(o) : BAD;
    }

    public int count(int o) {
        return memory.isAlive(o) ? memory.countOf(o) : BAD;
    }

    public int alive() {
        return memory.howManyAlive();
    }

    public int lookup(int h, int selector) {
        if (!isHandle(h) || !isSelector(selector)) {
            return BAD;
        }
        return processor.find(memory.classOfWord(memory.register(h)), selector);
    }

    private void giveHandle(int h, int word) {
        memory.setRegister(h, word);
        memory.settle();
    }

    private boolean holdsClass(int h) {
        return isHandle(h) && memory.isClass(memory.register(h));
    }

    private static boolean isHandle(int h) {
        return h >= 0 && h < HANDLES;
    }

    private static boolean isSelector(int selector) {
        return selector >= 0 && selector < SELECTORS;
    }

    private static int argumentsOf(int selector) {
        return selector % 3;
    }

    private static boolean isObject(int word) {
        return word >= 0 && word < OBJECTS;
    }

    /** The objects, the registers that hold words of them, and the counts of what holds each object. */
    private static final class Memory {
        private final boolean[] living = new boolean[OBJECTS];
        private final boolean[] stuck = new boolean[OBJECTS];
        private final boolean[] classes = new boolean[OBJECTS];
        private final int[] classIn = new int[OBJECTS];
        private final int[] fieldsIn = new int[OBJECTS];
        private final int[] sizes = new int[OBJECTS];
        private final int[] depths = new int[OBJECTS];
        private final int[] holders = new int[OBJECTS];
        private final int[][] fields = new int[OBJECTS][CONTEXT_FIELDS];
        private final int[] registers = new int[REGISTERS];
        private final boolean[] reached = new boolean[OBJECTS];
        private final int[] trail = new int[OBJECTS];
        private int trailEnd = 0;

        Memory() {
            holders[NIL] = REGISTERS;
            wake(NIL, OBJECT, 0);
            wakeClass(OBJECT, NIL, 0);
            wakeClass(NUMBER, OBJECT, 0);
            wakeClass(CONTEXT, OBJECT, 0);
            stick();
        }

        int newClass(int superclass, int size) {
            int o = leastFree();
            if (o != BAD) {
                wakeClass(o, superclass, size);
            }
            return o;
        }

        int newInstance(int c) {
            int o = leastFree();
            if (o != BAD) {
                wake(o, c, sizes[c]);
            }
            return o;
        }

        int newContext(int receiver, int found, int selector) {
            int o = leastFree();
            if (o != BAD) {
                wake(o, CONTEXT, CONTEXT_FIELDS);
                setField(o, RECEIVER, receiver);
                setField(o, FOUND_IN, found);
                setField(o, SELECTOR, ZERO + selector);
                setField(o, PLACE, ZERO);
            }
            return o;
        }

        boolean isAlive(int o) {
            return o >= 0 && o < OBJECTS && living[o];
        }

        boolean isClass(int word) {
            return isAlive(word) && classes[word];
        }

        boolean isClassOrNil(int word) {
            return word == NIL || isClass(word);
        }

        boolean isContext(int word) {
            return isAlive(word) && classIn[word] == CONTEXT;
        }

        boolean hasField(int word, int k) {
            return isAlive(word) && k >= 0 && k < fieldsIn[word];
        }

        boolean hasFreeField(int word, int k) {
            return hasField(word, k) && !isClass(word) && !isContext(word);
        }

        int classOfWord(int word) {
            return isObject(word) ? classIn[word] : NUMBER;
        }

        int fieldOf(int o, int k) {
            return fields[o][k];
        }

        void setField(int o, int k, int word) {
            release(fields[o][k]);
            fields[o][k] = word;
            hold(word);
        }

        int register(int r) {
            return registers[r];
        }

        void setRegister(int r, int word) {
            release(registers[r]);
            registers[r] = word;
            hold(word);
        }

        boolean isAmongSuperclasses(int c, int from) {
            int above = from;
            for (int i = 0; i < OBJECTS && above != NIL && above != c; i++) {
                above = fields[above][SUPERCLASS];
            }
            return above == c;
        }

        int depthOf(int context) {
            return depths[context];
        }

        int topBut(int context, int above) {
            return fields[context][STACK + depths[context] - 1 - above];
        }

        void push(int context, int word) {
            setField(context, STACK + depths[context], word);
            depths[context]++;
        }

        void popDownTo(int context, int depth) {
            for (int i = depth; i < depths[context]; i++) {
                setField(context, STACK + i, NIL);
            }
            depths[context] = depth;
        }

        int pop(int context) {
            int word = topBut(context, 0);
            depths[context]--;
            setField(context, STACK + depths[context], NIL);
            return word;
        }

        int countOf(int o) {
            return stuck[o] ? STICKING : holders[o];
        }

        int howManyAlive() {
            int many = 0;
            for (int o = 0; o < OBJECTS; o++) {
                if (living[o]) {
                    many++;
                }
            }
            return many;
        }

        /** The end of a step; only here do counts matter, whatever they were in the midst of it. */
        void settle() {
            boolean again = true;
            for (int pass = 0; pass < OBJECTS && again; pass++) {
                again = giveBackUnheld();
            }
            stick();
        }

        int giveBackUnreached() {
            markReached();
            int many = 0;
            for (int o = FIRST_MORTAL; o < OBJECTS; o++) {
                if (living[o] && !reached[o]) {
                    giveBack(o);
                    many++;
                }
            }
            for (int o = 0; o < OBJECTS; o++) {
                stuck[o] = false;
            }
            stick();
            return many;
        }

        private int leastFree() {
            for (int o = FIRST_MORTAL; o < OBJECTS; o++) {
                if (!living[o]) {
                    return o;
                }
            }
            return BAD;
        }

        private void wakeClass(int o, int superclass, int size) {
            wake(o, OBJECT, CLASS_FIELDS);
            classes[o] = true;
            sizes[o] = size;
            setField(o, SUPERCLASS, superclass);
        }

        /** The fields of an object that is not alive are nil already, but nothing is held by them. */
        private void wake(int o, int c, int fieldCount) {
            living[o] = true;
            classIn[o] = c;
            fieldsIn[o] = fieldCount;
            hold(c);
            holders[NIL] += fieldCount;
        }

        private void giveBack(int o) {
            release(classIn[o]);
            for (int k = 0; k < fieldsIn[o]; k++) {
                release(fields[o][k]);
                fields[o][k] = NIL;
            }
            living[o] = false;
            stuck[o] = false;
            classes[o] = false;
            fieldsIn[o] = 0;
            depths[o] = 0;
        }

        private boolean giveBackUnheld() {
            boolean some = false;
            for (int o = FIRST_MORTAL; o < OBJECTS; o++) {
                if (living[o] && !stuck[o] && holders[o] == 0) {
                    giveBack(o);
                    some = true;
                }
            }
            return some;
        }

        private void stick() {
            for (int o = 0; o < OBJECTS; o++) {
                if (living[o] && holders[o] >= STICKING) {
                    stuck[o] = true;
                }
            }
        }

        private void hold(int word) {
            if (word < OBJECTS) {
                holders[word]++;
            }
        }

        private void release(int word) {
            if (word < OBJECTS) {
                holders[word]--;
            }
        }

        private void markReached() {
            for (int o = 0; o < OBJECTS; o++) {
                reached[o] = false;
            }
            trailEnd = 0;
            for (int o = 0; o < FIRST_MORTAL; o++) {
                reach(o);
            }
            for (int r = 0; r < REGISTERS; r++) {
                reach(registers[r]);
            }
            for (int i = 0; i < trailEnd && i < OBJECTS; i++) {
                reachFrom(trail[i]);
            }
        }

        private void reachFrom(int o) {
            reach(classIn[o]);
            for (int k = 0; k < fieldsIn[o]; k++) {
                reach(fields[o][k]);
            }
        }

        private void reach(int word) {
            if (isObject(word) && !reached[word]) {
                reached[word] = true;
                trail[trailEnd] = word;
                trailEnd++;
            }
        }
    }

    /** The methods of the classes: which selectors each class has one for, and its bytes. */
    private static final class Methods {
        private final boolean[] known = new boolean[OBJECTS * SELECTORS];
        private final long[] lows = new long[OBJECTS * SELECTORS];
        private final long[] highs = new long[OBJECTS * SELECTORS];

        void keep(int c, int selector, long low, long high) {
            int slot = slotOf(c, selector);
            known[slot] = true;
            lows[slot] = low;
            highs[slot] = high;
        }

        /** A class may get the number of one that was given back, but not its methods. */
        void forget(int c) {
            for (int selector = 0; selector < SELECTORS; selector++) {
                known[slotOf(c, selector)] = false;
            }
        }

        boolean has(int c, int selector) {
            return known[slotOf(c, selector)];
        }

        int byteAt(int c, int selector, int place) {
            int slot = slotOf(c, selector);
            long half = place < METHOD_BYTES / 2 ? lows[slot] : highs[slot];
            return (int) (half >>> place % (METHOD_BYTES / 2) * 8) & 255;
        }

        private static int slotOf(int c, int selector) {
            return c * SELECTORS + selector;
        }
    }

    /** Does the bytes of the active context; each of them answers DONE, or the reason why it fails. */
    private static final class Processor {
        private static final int PUSH_TEMPORARY = 0;
        private static final int PUSH_FIELD = 1;
        private static final int PUSH_OTHER = 2;
        private static final int POP_TEMPORARY = 3;
        private static final int POP_FIELD = 4;
        private static final int SEND = 5;
        private static final int SEND_ABOVE = 6;
        private static final int CALCULATE = 7;
        private static final int FORWARD = 8;
        private static final int FORWARD_IF_NIL = 9;
        private static final int BACK = 10;
        private static final int RETURN = 11;
        private static final int INSTANCE = 12;
        private static final int TOP = 13;

        private static final int SAME = 4;

        private final Memory memory;
        private final Methods methods;
        private int reason = DONE;

        Processor(Memory memory, Methods methods) {
            this.memory = memory;
            this.methods = methods;
        }

        int condition() {
            if (memory.register(ACTIVE) == NIL) {
                return IDLE;
            }
            return reason == DONE ? RUNNING : HALTED;
        }

        int whyHalted() {
            return reason;
        }

        void stop() {
            reason = DONE;
            memory.setRegister(ACTIVE, NIL);
            memory.settle();
        }

        int find(int from, int selector) {
            int c = from;
            for (int i = 0; i < OBJECTS && c != NIL && !methods.has(c, selector); i++) {
                c = memory.fieldOf(c, SUPERCLASS);
            }
            return c;
        }

        boolean start(int h, int selector) {
            int receiver = memory.register(h);
            int found = find(memory.classOfWord(receiver), selector);
            if (found == NIL) {
                return false;
            }
            int fresh = memory.newContext(receiver, found, selector);
            if (fresh == BAD) {
                return false;
            }
            for (int i = 0; i < argumentsOf(selector); i++) {
                memory.setField(fresh, TEMPORARY + i, memory.register((h + 1 + i) % HANDLES));
            }
            memory.setRegister(ACTIVE, fresh);
            memory.settle();
            return true;
        }

        boolean doByte() {
            int context = memory.register(ACTIVE);
            int place = placeOf(context);
            if (place >= METHOD_BYTES) {
                return halt(BEHIND_METHOD);
            }
            int code = codeAt(context, place);
            int operation = code >> 4;
            int a = code & 15;
            if (!stackSuits(context, operation, a)) {
                return halt(WRONG_STACK);
            }
            // Jumps are counted from the place behind the byte, so it is set before and undone on failure.
            setPlace(context, place + 1);
            int failure = perform(context, operation, a);
            if (failure != DONE) {
                setPlace(context, place);
                return halt(failure);
            }
            memory.settle();
            return true;
        }

        private boolean halt(int failure) {
            reason = failure;
            return false;
        }

        /** The method is looked at anew for each byte, since it may be replaced while contexts run it. */
        private int codeAt(int context, int place) {
            int selector = memory.fieldOf(context, SELECTOR) - ZERO;
            return methods.byteAt(memory.fieldOf(context, FOUND_IN), selector, place);
        }

        private boolean stackSuits(int context, int operation, int a) {
            int depth = memory.depthOf(context);
            return depth >= wordsUsed(operation, a) && (depth < STACK_WORDS || !onlyPushes(operation, a));
        }

        private int perform(int context, int operation, int a) {
            switch (operation) {
                case PUSH_TEMPORARY:
                    return pushTemporary(context, a);
                case PUSH_FIELD:
                    return pushField(context, a);
                case PUSH_OTHER:
                    memory.push(context, otherWord(context, a));
                    return DONE;
                case POP_TEMPORARY:
                    return popTemporary(context, a);
                case POP_FIELD:
                    return popField(context, a);
                case SEND:
                case SEND_ABOVE:
                    return sendOn(context, operation, a);
                case CALCULATE:
                    return calculate(context, a);
                case FORWARD:
                    return forward(context, a);
                case FORWARD_IF_NIL:
                    return forwardIfNil(context, a);
                case BACK:
                    return back(context, a);
                case RETURN:
                    return giveAnswer(context, a);
                case INSTANCE:
                    return instance(context, a);
                case TOP:
                    return doubleOrPop(context, a);
                default:
                    return NOT_ALLOWED;
            }
        }

        private static int wordsUsed(int operation, int a) {
            switch (operation) {
                case POP_TEMPORARY:
                case POP_FIELD:
                case FORWARD_IF_NIL:
                    return 1;
                case SEND:
                case SEND_ABOVE:
                    return argumentsOf(a) + 1;
                case CALCULATE:
                    return 2;
                case RETURN:
                case INSTANCE:
                    return a == 0 ? 1 : 0;
                case TOP:
                    return a <= 1 ? 1 : 0;
                default:
                    return 0;
            }
        }

        private static boolean onlyPushes(int operation, int a) {
            return operation <= PUSH_OTHER || operation == TOP && a == 0;
        }

        private int pushTemporary(int context, int a) {
            if (a >= TEMPORARIES) {
                return NOT_ALLOWED;
            }
            memory.push(context, memory.fieldOf(context, TEMPORARY + a));
            return DONE;
        }

        private int pushField(int context, int a) {
            int receiver = memory.fieldOf(context, RECEIVER);
            if (!memory.hasField(receiver, a) || memory.isContext(receiver)) {
                return NOT_ALLOWED;
            }
            memory.push(context, memory.fieldOf(receiver, a));
            return DONE;
        }

        private int otherWord(int context, int a) {
            int receiver = memory.fieldOf(context, RECEIVER);
            if (a == 0) {
                return NIL;
            }
            if (a <= 7) {
                return ZERO + a - 4;
            }
            if (a == 8) {
                return receiver;
            }
            return a == 9 ? memory.classOfWord(receiver) : memory.register(a - 10);
        }

        private int popTemporary(int context, int a) {
            if (a >= TEMPORARIES) {
                return NOT_ALLOWED;
            }
            memory.setField(context, TEMPORARY + a, memory.pop(context));
            return DONE;
        }

        private int popField(int context, int a) {
            int receiver = memory.fieldOf(context, RECEIVER);
            if (!memory.hasFreeField(receiver, a)) {
                return NOT_ALLOWED;
            }
            memory.setField(receiver, a, memory.pop(context));
            return DONE;
        }

        private int sendOn(int context, int operation, int selector) {
            if (!isSelector(selector)) {
                return NOT_ALLOWED;
            }
            int arguments = argumentsOf(selector);
            int receiver = memory.topBut(context, arguments);
            int from = operation == SEND
                ? memory.classOfWord(receiver)
                : memory.fieldOf(memory.fieldOf(context, FOUND_IN), SUPERCLASS);
            int found = find(from, selector);
            if (found == NIL) {
                return NO_METHOD;
            }
            int fresh = memory.newContext(receiver, found, selector);
            if (fresh == BAD) {
                return NO_ROOM;
            }
            for (int i = 0; i < arguments; i++) {
                memory.setField(fresh, TEMPORARY + i, memory.topBut(context, arguments - 1 - i));
            }
            memory.setField(fresh, SENDER, context);
            memory.popDownTo(context, memory.depthOf(context) - arguments - 1);
            memory.setRegister(ACTIVE, fresh);
            return DONE;
        }

        private int calculate(int context, int a) {
            int y = memory.topBut(context, 0);
            int x = memory.topBut(context, 1);
            if (a > SAME || a != SAME && (isObject(x) || isObject(y))) {
                return NOT_ALLOWED;
            }
            int result = resultOf(a, x, y);
            if (result == BAD) {
                return NO_SUCH_NUMBER;
            }
            memory.popDownTo(context, memory.depthOf(context) - 2);
            memory.push(context, result);
            return DONE;
        }

        private static int resultOf(int a, int x, int y) {
            switch (a) {
                case 0:
                    return numberWord(x - ZERO + (y - ZERO));
                case 1:
                    return numberWord(x - y);
                case 2:
                    return numberWord((x - ZERO) * (y - ZERO));
                case 3:
                    return truth(x < y);
                default:
                    return truth(x == y);
            }
        }

        private static int numberWord(int v) {
            return v < LEAST || v > GREATEST ? BAD : ZERO + v;
        }

        private static int truth(boolean holds) {
            return holds ? ZERO + 1 : NIL;
        }

        private int forward(int context, int a) {
            int place = placeOf(context) + a;
            if (place > METHOD_BYTES) {
                return NOT_ALLOWED;
            }
            setPlace(context, place);
            return DONE;
        }

        private int forwardIfNil(int context, int a) {
            int place = placeOf(context) + (memory.topBut(context, 0) == NIL ? a : 0);
            if (place > METHOD_BYTES) {
                return NOT_ALLOWED;
            }
            memory.pop(context);
            setPlace(context, place);
            return DONE;
        }

        private int back(int context, int a) {
            int place = placeOf(context) - (a + 1);
            if (place < 0) {
                return NOT_ALLOWED;
            }
            setPlace(context, place);
            return DONE;
        }

        private int giveAnswer(int context, int a) {
            if (a > 1) {
                return NOT_ALLOWED;
            }
            int word = a == 0 ? memory.topBut(context, 0) : memory.fieldOf(context, RECEIVER);
            int sender = memory.fieldOf(context, SENDER);
            if (sender == NIL) {
                memory.setRegister(0, word);
            } else {
                // The sender popped a receiver when it sent, so its stack has a place for this word.
                memory.push(sender, word);
            }
            memory.setRegister(ACTIVE, sender);
            return DONE;
        }

        private int instance(int context, int a) {
            if (a != 0) {
                return NOT_ALLOWED;
            }
            int c = memory.topBut(context, 0);
            if (!memory.isClass(c) || c == CONTEXT) {
                return NOT_ALLOWED;
            }
            int made = memory.newInstance(c);
            if (made == BAD) {
                return NO_ROOM;
            }
            memory.pop(context);
            memory.push(context, made);
            return DONE;
        }

        private int doubleOrPop(int context, int a) {
            if (a > 1) {
                return NOT_ALLOWED;
            }
            if (a == 0) {
                memory.push(context, memory.topBut(context, 0));
            } else {
                memory.pop(context);
            }
            return DONE;
        }

        private int placeOf(int context) {
            return memory.fieldOf(context, PLACE) - ZERO;
        }

        private void setPlace(int context, int place) {
            memory.setField(context, PLACE, ZERO + place);
        }
    }
}
