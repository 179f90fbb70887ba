import java.util.ArrayDeque;
import java.util.ArrayList;
import java.util.Deque;
import java.util.List;
import java.util.Map;
import java.util.Random;
import java.util.TreeMap;

/**
 * Long runs of random calls, answered by the machine and by a model that follows the document's words: it
 * counts holders anew whenever it needs them, and does each byte on a copy that is thrown away if it fails.
 */
public final class ModelTest {
    private static final int RUNS = 2500;
    private static final int CALLS = 512;
    private static final int BAD = MessageMachine.BAD;

    private static final class Failure extends Exception {
        private static final long serialVersionUID = 1L;
        final int reason;

        Failure(int reason) {
            super(null, null, false, false);
            this.reason = reason;
        }
    }

    private static final class Thing {
        int type;
        List<Integer> fields = new ArrayList<>();
        boolean isClass;
        int size;
        Map<Integer, int[]> methods = new TreeMap<>();
        int depth;
        boolean stuck;

        Thing copy() {
            Thing t = new Thing();
            t.type = type;
            t.fields = new ArrayList<>(fields);
            t.isClass = isClass;
            t.size = size;
            t.methods = methods;
            t.depth = depth;
            t.stuck = stuck;
            return t;
        }
    }

    private static final class Model {
        TreeMap<Integer, Thing> things = new TreeMap<>();
        int[] handles = new int[6];
        int active;
        int reason;

        Model() {
            put(0, 1, 0);
            for (int c = 1; c <= 3; c++) {
                put(c, 1, 1).isClass = true;
                things.get(c).fields.set(0, c == 1 ? 0 : 1);
            }
            stick();
        }

        Model(Model other) {
            for (Map.Entry<Integer, Thing> e : other.things.entrySet()) {
                things.put(e.getKey(), e.getValue().copy());
            }
            handles = other.handles.clone();
            active = other.active;
            reason = other.reason;
        }

        void become(Model other) {
            things = other.things;
            handles = other.handles;
            active = other.active;
            reason = other.reason;
        }

        Thing put(int o, int type, int fields) {
            Thing t = new Thing();
            t.type = type;
            for (int k = 0; k < fields; k++) {
                t.fields.add(0);
            }
            things.put(o, t);
            return t;
        }

        int room() {
            for (int o = 0; o < 28; o++) {
                if (!things.containsKey(o)) {
                    return o;
                }
            }
            return BAD;
        }

        int holders(int o) {
            int n = active == o ? 1 : 0;
            for (int w : handles) {
                n += w == o ? 1 : 0;
            }
            for (Thing t : things.values()) {
                n += t.type == o ? 1 : 0;
                for (int w : t.fields) {
                    n += w == o ? 1 : 0;
                }
            }
            return n;
        }

        void stick() {
            for (int o : things.keySet()) {
                if (holders(o) >= 6) {
                    things.get(o).stuck = true;
                }
            }
        }

        void endStep() {
            boolean again = true;
            while (again) {
                again = false;
                for (int o : new ArrayList<>(things.keySet())) {
                    if (o > 3 && !things.get(o).stuck && holders(o) == 0) {
                        things.remove(o);
                        again = true;
                    }
                }
            }
            stick();
        }

        int sweep() {
            TreeMap<Integer, Thing> kept = new TreeMap<>();
            Deque<Integer> open = new ArrayDeque<>(List.of(0, 1, 2, 3, active));
            for (int w : handles) {
                open.add(w);
            }
            while (!open.isEmpty()) {
                int w = open.poll();
                if (w < 28 && !kept.containsKey(w)) {
                    kept.put(w, things.get(w));
                    open.add(things.get(w).type);
                    open.addAll(things.get(w).fields);
                }
            }
            int gone = things.size() - kept.size();
            things = kept;
            for (Thing t : things.values()) {
                t.stuck = false;
            }
            stick();
            return gone;
        }

        boolean isClass(int w) {
            return w < 28 && things.get(w).isClass;
        }

        int typeOf(int w) {
            return w < 28 ? things.get(w).type : 2;
        }

        int lookup(int from, int selector) {
            int c = from;
            while (c != 0 && !things.get(c).methods.containsKey(selector)) {
                c = things.get(c).fields.get(0);
            }
            return c;
        }

        int context(int sender, int receiver, int found, int selector) throws Failure {
            int o = room();
            if (o == BAD) {
                throw new Failure(4);
            }
            Thing t = put(o, 3, 15);
            t.fields.set(0, sender);
            t.fields.set(1, receiver);
            t.fields.set(2, found);
            t.fields.set(3, 1000 + selector);
            t.fields.set(4, 1000);
            return o;
        }

        int state() {
            return active == 0 ? 0 : reason == 0 ? 1 : 2;
        }

        int run(int n) {
            if (n < 0 || n > 500) {
                return BAD;
            }
            for (int done = 0; done < n; done++) {
                if (state() != 1) {
                    return done;
                }
                Model next = new Model(this);
                try {
                    next.step();
                } catch (Failure f) {
                    reason = f.reason;
                    return done;
                }
                next.endStep();
                become(next);
            }
            return n;
        }

        Thing now() {
            return things.get(active);
        }

        int pop() throws Failure {
            int w = top();
            Thing t = now();
            t.depth--;
            t.fields.set(9 + t.depth, 0);
            return w;
        }

        int top() throws Failure {
            if (now().depth == 0) {
                throw new Failure(1);
            }
            return now().fields.get(8 + now().depth);
        }

        void push(int w) throws Failure {
            Thing t = now();
            if (t.depth == 6) {
                throw new Failure(1);
            }
            t.fields.set(9 + t.depth, w);
            t.depth++;
        }

        void need(boolean holds) throws Failure {
            if (!holds) {
                throw new Failure(3);
            }
        }

        int ownField(int a) throws Failure {
            int r = now().fields.get(1);
            need(r < 28 && things.get(r).type != 3 && a < things.get(r).fields.size());
            return things.get(r).fields.get(a);
        }

        void place(int p) throws Failure {
            need(p >= 0 && p <= 16);
            now().fields.set(4, 1000 + p);
        }

        void step() throws Failure {
            Thing t = now();
            int place = t.fields.get(4) - 1000;
            if (place == 16) {
                throw new Failure(6);
            }
            int code = things.get(t.fields.get(2)).methods.get(t.fields.get(3) - 1000)[place];
            place(place + 1);
            int a = code % 16;
            switch (code / 16) {
                case 0 -> {
                    push(a < 4 ? t.fields.get(5 + a) : 0);
                    need(a < 4);
                }
                case 1 -> {
                    push(0);
                    pop();
                    push(ownField(a));
                }
                case 2 -> push(word(a));
                case 3 -> {
                    int w = pop();
                    need(a < 4);
                    t.fields.set(5 + a, w);
                }
                case 4 -> {
                    int w = pop();
                    ownField(a);
                    need(!isClass(t.fields.get(1)));
                    things.get(t.fields.get(1)).fields.set(a, w);
                }
                case 5, 6 -> message(code / 16 == 6, a);
                case 7 -> arithmetic(a);
                case 8 -> place(place + 1 + a);
                case 9 -> {
                    if (pop() == 0) {
                        place(place + 1 + a);
                    }
                }
                case 10 -> place(place + 1 - (a + 1));
                case 11 -> answer(a);
                case 12 -> {
                    need(a == 0);
                    int c = pop();
                    need(isClass(c) && c != 3);
                    int o = room();
                    if (o == BAD) {
                        throw new Failure(4);
                    }
                    put(o, c, things.get(c).size);
                    push(o);
                }
                case 13 -> {
                    need(a < 2);
                    if (a == 0) {
                        push(top());
                    } else {
                        pop();
                    }
                }
                default -> need(false);
            }
        }

        int word(int a) {
            int receiver = now().fields.get(1);
            return switch (a) {
                case 0 -> 0;
                case 1, 2, 3, 4, 5, 6, 7 -> 996 + a;
                case 8 -> receiver;
                case 9 -> typeOf(receiver);
                default -> handles[a - 10];
            };
        }

        void message(boolean above, int a) throws Failure {
            int[] arguments = new int[a % 3];
            for (int i = a % 3 - 1; i >= 0; i--) {
                arguments[i] = pop();
            }
            int receiver = pop();
            need(a < 8);
            int own = now().fields.get(2);
            int found = lookup(above ? things.get(own).fields.get(0) : typeOf(receiver), a);
            if (found == 0) {
                throw new Failure(2);
            }
            active = context(active, receiver, found, a);
            for (int i = 0; i < arguments.length; i++) {
                now().fields.set(5 + i, arguments[i]);
            }
        }

        void arithmetic(int a) throws Failure {
            int y = pop();
            int x = pop();
            need(a < 5);
            need(a == 4 || x >= 28 && y >= 28);
            int p = x - 1000;
            int q = y - 1000;
            if (a >= 3) {
                push((a == 3 ? p < q : x == y) ? 1001 : 0);
                return;
            }
            int r = a == 0 ? p + q : a == 1 ? p - q : p * q;
            if (r < -512 || r > 511) {
                throw new Failure(5);
            }
            push(1000 + r);
        }

        void answer(int a) throws Failure {
            need(a < 2);
            int w = a == 0 ? top() : now().fields.get(1);
            active = now().fields.get(0);
            if (active == 0) {
                handles[0] = w;
            } else {
                push(w);
            }
        }

        static boolean hand(int... hs) {
            for (int h : hs) {
                if (h < 0 || h > 5) {
                    return false;
                }
            }
            return true;
        }

        static boolean selector(int s) {
            return s >= 0 && s < 8;
        }

        boolean give(int h, int w) {
            handles[h] = w;
            endStep();
            return true;
        }

        int define(int h, int s, int size) {
            if (!hand(h, s) || size < 0 || size > 6 || handles[s] != 0 && !isClass(handles[s]) || room() == BAD) {
                return BAD;
            }
            int o = room();
            Thing t = put(o, 1, 1);
            t.isClass = true;
            t.size = size;
            t.fields.set(0, handles[s]);
            give(h, o);
            return o;
        }

        boolean method(int c, int s, int[] bytes) {
            if (!hand(c) || !selector(s) || !isClass(handles[c])) {
                return false;
            }
            things.get(handles[c]).methods.put(s, bytes);
            return true;
        }

        int make(int h, int c) {
            if (!hand(h, c) || !isClass(handles[c]) || handles[c] == 3 || room() == BAD) {
                return BAD;
            }
            int o = room();
            put(o, handles[c], things.get(handles[c]).size);
            give(h, o);
            return o;
        }

        boolean hasField(int w, int k) {
            return things.containsKey(w) && k >= 0 && k < things.get(w).fields.size();
        }

        boolean store(int g, int k, int h) {
            if (!hand(g, h) || !hasField(handles[g], k) || isClass(handles[g]) || typeOf(handles[g]) == 3) {
                return false;
            }
            things.get(handles[g]).fields.set(k, handles[h]);
            endStep();
            return true;
        }

        boolean inherit(int c, int s) {
            if (!hand(c, s) || !isClass(handles[c]) || handles[c] <= 3 || handles[s] != 0 && !isClass(handles[s])) {
                return false;
            }
            for (int up = handles[s]; up != 0; up = things.get(up).fields.get(0)) {
                if (up == handles[c]) {
                    return false;
                }
            }
            things.get(handles[c]).fields.set(0, handles[s]);
            endStep();
            return true;
        }

        boolean send(int h, int s) {
            if (active != 0 || !hand(h) || !selector(s)) {
                return false;
            }
            int found = lookup(typeOf(handles[h]), s);
            if (found == 0) {
                return false;
            }
            try {
                active = context(0, handles[h], found, s);
            } catch (Failure f) {
                return false;
            }
            for (int i = 0; i < s % 3; i++) {
                now().fields.set(5 + i, handles[(h + 1 + i) % 6]);
            }
            endStep();
            return true;
        }

        boolean abort() {
            if (active == 0) {
                return false;
            }
            active = 0;
            reason = 0;
            endStep();
            return true;
        }
    }

    private final Random random;
    private final StringBuilder log = new StringBuilder();
    private final MessageMachine machine = new MessageMachine();
    private final Model model = new Model();
    private int steps = 0;

    private ModelTest(long seed) {
        random = new Random(seed);
    }

    public static void main(String[] args) {
        int wrong = 0;
        int steps = 0;
        int[] reasons = new int[7];
        for (int seed = 0; seed < RUNS && wrong < 3; seed++) {
            ModelTest test = new ModelTest(seed);
            if (!test.runsAlike(reasons)) {
                wrong++;
                System.out.println("run " + seed + ":\n" + test.log);
            }
            steps += test.steps;
        }
        for (int r = 1; r < reasons.length; r++) {
            if (reasons[r] == 0) {
                wrong++;
                System.out.println("no run was halted by " + r);
            }
        }
        System.out.println(RUNS + " random runs with " + steps + " bytes done, " + wrong + " wrong; halted by reason: " + java.util.Arrays.toString(reasons));
        if (wrong != 0) {
            System.exit(1);
        }
    }

    private boolean runsAlike(int[] reasons) {
        for (int call = 0; call < CALLS; call++) {
            int halted = model.reason;
            boolean alike = call % 4 < 2 ? change() : look();
            if (!alike) {
                return false;
            }
            if (model.reason != halted) {
                reasons[model.reason]++;
            }
        }
        return true;
    }

    private boolean same(String call, long got, long want) {
        log.append(call).append(" answered ").append(got).append(", due is ").append(want).append('\n');
        return got == want;
    }

    private boolean same(String call, boolean got, boolean want) {
        return same(call, got ? 1 : 0, want ? 1 : 0);
    }

    private int below(int n) {
        return random.nextInt(n);
    }

    /** Nearly always a value 0 .. n - 1, seldom one beside them. */
    private int mostly(int n) {
        return below(60) == 0 ? below(2) == 0 ? -1 : n + below(3) : below(n);
    }

    private boolean change() {
        int h = mostly(6);
        int g = mostly(6);
        int k = mostly(below(4) == 0 ? 15 : 3);
        int s = mostly(8);
        int dice = below(100);
        if (model.state() == 2 && below(4) == 0) {
            return same("abort", machine.abort(), model.abort());
        }
        if (model.state() == 1 && below(4) == 0) {
            return bytes();
        }
        if (dice < 8) {
            int size = mostly(7);
            return same("define " + h + " " + g + " " + size, machine.define(h, g, size), model.define(h, g, size));
        }
        if (dice < 24) {
            return newMethod(h, s);
        }
        if (dice < 36) {
            return same("make " + h + " " + g, machine.make(h, g), model.make(h, g));
        }
        if (dice < 40) {
            int v = mostly(1024) - 512;
            v = below(3) == 0 && v >= -512 && v <= 511 ? v / 20 : v;
            boolean fits = Model.hand(h) && v >= -512 && v <= 511 && model.give(h, 1000 + v);
            return same("number " + h + " " + v, machine.number(h, v), fits);
        }
        if (dice < 46) {
            boolean fits = Model.hand(h, g) && model.give(h, model.handles[g]);
            return same("move " + h + " " + g, machine.move(h, g), fits);
        }
        if (dice < 50) {
            return same("drop " + h, machine.drop(h), Model.hand(h) && model.give(h, 0));
        }
        return dice < 66 ? changeFields(h, g, k, dice) : go(h, s, dice);
    }

    private boolean changeFields(int h, int g, int k, int dice) {
        if (dice < 53) {
            boolean fits = Model.hand(h, g) && model.hasField(model.handles[g], k)
                && model.give(h, model.things.get(model.handles[g]).fields.get(k));
            return same("fetch " + h + " " + g + " " + k, machine.fetch(h, g, k), fits);
        }
        if (dice < 56) {
            boolean fits = Model.hand(h, g) && model.give(h, model.typeOf(model.handles[g]));
            return same("kind " + h + " " + g, machine.kind(h, g), fits);
        }
        if (dice < 62) {
            return same("store " + g + " " + k + " " + h, machine.store(g, k, h), model.store(g, k, h));
        }
        return same("inherit " + h + " " + g, machine.inherit(h, g), model.inherit(h, g));
    }

    private boolean go(int h, int s, int dice) {
        if (dice < 80) {
            return same("send " + h + " " + s, machine.send(h, s), model.send(h, s));
        }
        if (dice < 92) {
            return bytes();
        }
        if (dice < 98) {
            return same("abort", machine.abort(), model.abort());
        }
        return same("sweep", machine.sweep(), model.sweep());
    }

    private boolean bytes() {
        int n = below(20) == 0 ? mostly(501) : below(25);
        int want = model.run(n);
        steps += Math.max(0, want);
        return same("run " + n, machine.run(n), want);
    }

    private boolean newMethod(int c, int s) {
        int[] bytes = new int[16];
        int depth = 0;
        int style = below(4);
        for (int i = 0; i < 16; i++) {
            int likely = style == 0 ? sumsByte(depth, i) : style == 1 ? buildersByte(depth, i) : likelyByte(depth);
            bytes[i] = below(60) == 0 ? below(256) : likely;
            depth = depthBehind(depth, bytes[i]);
        }
        boolean got = machine.method(c, s, Machines.half(bytes, 0), Machines.half(bytes, 8));
        return same("method " + c + " " + s + " " + java.util.Arrays.toString(bytes), got, model.method(c, s, bytes));
    }

    /** Of methods that calculate, and jump to and fro. */
    private int sumsByte(int depth, int place) {
        int dice = below(12);
        if (depth == 0 || dice < 4 && depth < 5) {
            return below(12) == 0 ? 0x2A + below(6) : 0x21 + below(7);
        }
        if (depth > 1 && dice < 9) {
            return below(8) == 0 ? 0x73 + below(2) : 0x70 + below(3);
        }
        int[] others = {0x80 + below(3), 0x90 + below(3), 0xA0 + below(place + 1), 0xD0, 0xD0};
        return others[below(others.length)];
    }

    /** Of methods that make instances, put them into fields and temporaries, and send on. */
    private int buildersByte(int depth, int place) {
        int dice = below(12);
        if (depth == 0 || dice < 3 && depth < 5) {
            return below(2) == 0 ? 0x29 : below(2) == 0 ? 0x28 : below(2) == 0 ? 0x10 + below(2) : below(4);
        }
        if (dice < 6) {
            return 0xC0;
        }
        int[] others = {0x30 + below(4), 0x40 + below(2), 0x40, 0x50, 0x53, 0x60, 0xA0 + below(place + 1), 0xD0, 0xD1, 0xB0};
        return others[below(others.length)];
    }

    private int likelyByte(int depth) {
        int dice = below(20);
        if (depth == 0 || dice < 7 && depth < 5) {
            int kind = below(8);
            return kind == 0 ? below(4) : kind == 1 ? 0x10 + below(2) : kind < 4 ? 0x28 + below(2) : 0x20 + below(16);
        }
        if (dice < 9) {
            return 0x30 + below(4);
        }
        if (dice < 11) {
            return 0x40 + below(2);
        }
        if (dice < 15) {
            int s = below(8);
            return s % 3 < depth ? (below(5) == 0 ? 0x60 : 0x50) + s : 0x50 + 3 * below(3) % 8;
        }
        if (dice < 17 && depth > 1) {
            return 0x70 + below(5);
        }
        int[] others = {0x80 + below(4), 0x90 + below(4), 0xA0 + below(4), 0xB0 + below(2), 0xC0, 0xD0, 0xD1};
        return others[below(others.length)];
    }

    private static int depthBehind(int depth, int code) {
        int[] more = {1, 1, 1, -1, -1, 0, 0, -1, 0, -1, 0, 0, 0, 0, 0, 0};
        int o = code >> 4;
        int change = more[o];
        if (o == 5 || o == 6) {
            change = -(code % 16 % 3);
        }
        if (o == 13) {
            change = code % 16 == 0 ? 1 : -1;
        }
        return Math.max(0, Math.min(6, depth + change));
    }

    private boolean look() {
        int o = below(3) == 0 && model.active != 0 ? model.active : mostly(below(2) == 0 ? 10 : 28);
        Thing t = model.things.get(o);
        int h = mostly(6);
        int s = mostly(8);
        int k = mostly(15);
        switch (below(12)) {
            case 0:
                return same("state", machine.state(), model.state());
            case 1:
                return same("reason", machine.reason(), model.reason);
            case 2:
                return same("active", machine.active(), model.active);
            case 3:
                return same("stack " + o, machine.stack(o), t == null || t.type != 3 ? BAD : t.depth);
            case 4:
                return same("handle " + h, machine.handle(h), Model.hand(h) ? model.handles[h] : BAD);
            case 5:
                return same("classOf " + o, machine.classOf(o), t == null ? BAD : t.type);
            case 6:
            case 7:
                return same("count " + o, machine.count(o), t == null ? BAD : t.stuck ? 6 : model.holders(o));
            case 8:
                return same("alive", machine.alive(), model.things.size());
            case 9:
                boolean fits = Model.hand(h) && Model.selector(s);
                int want = fits ? model.lookup(model.typeOf(model.handles[h]), s) : BAD;
                return same("lookup " + h + " " + s, machine.lookup(h, s), want);
            default:
                return same("field " + o + " " + k, machine.field(o, k), model.hasField(o, k) ? t.fields.get(k) : BAD);
        }
    }
}
