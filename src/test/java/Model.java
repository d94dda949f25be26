import java.lang.reflect.Array;
import java.util.ArrayList;
import java.util.IdentityHashMap;
import java.util.List;
import java.util.Map;

/**
 * The document once more, written another way: rows are Java's arrays, things are Java's classes,
 * routines call one another, and what Java's machine refuses is caught. ModelTest compares.
 */
final class Model {
    private static final int NONE = -1, BAD = -1000000, FULL = -1000001;

    // ---- faults

    private static final class StoryFault extends RuntimeException {
        private static final long serialVersionUID = 1;
        final int code;
        final long number;
        int routine = NONE;
        int place = NONE;

        StoryFault(int code, long number) {
            super(null, null, false, false);
            this.code = code;
            this.number = number;
        }
    }

    private static final class Spent extends RuntimeException {
        private static final long serialVersionUID = 1;
    }

    private static StoryFault toFault(RuntimeException e) {
        if (e instanceof StoryFault) return (StoryFault) e;
        if (e instanceof NullPointerException) return new StoryFault(1, 0);
        if (e instanceof ArrayIndexOutOfBoundsException) return new StoryFault(2, 0);
        if (e instanceof ClassCastException) return new StoryFault(3, 0);
        if (e instanceof ArrayStoreException) return new StoryFault(4, 0);
        if (e instanceof NegativeArraySizeException) return new StoryFault(5, 0);
        if (e instanceof ArithmeticException) return new StoryFault(6, 0);
        if (e instanceof IllegalArgumentException) return new StoryFault(7, 0);
        if (e instanceof UnsupportedOperationException) return new StoryFault(12, 0);
        throw e;
    }

    // ---- things

    private static class Box {
        int count;
        int mark;
        Box[] shelf = new Box[4];

        int kind() { return 0; }
        int ownMark() { return 0; }
        void ownMark(int n) { }
        int weigh() { return 2 + count; }
        int take(int n) { count += n; return count; }
        int open() { throw new UnsupportedOperationException(); }
    }

    private static class Crate extends Box {
        int own;

        Crate() { shelf = new Crate[3]; }
        @Override int kind() { return 1; }
        @Override int ownMark() { return own; }
        @Override void ownMark(int n) { own = n; }
        @Override int weigh() { return 2 * super.weigh(); }
        @Override int take(int n) {
            if (count + n > 9) throw new StoryFault(11, 50);
            return super.take(n);
        }
        @Override int open() { return own; }
    }

    private static class Cage extends Crate {
        @Override int kind() { return 2; }
        @Override int take(int n) { own++; return super.take(n); }
        @Override int open() { return super.open() + 100; }
    }

    private static class Cart extends Cage {
        @Override int kind() { return 3; }
        @Override int weigh() { return super.weigh() + 1; }
    }

    private static class Lamp extends Box {
        Lamp() { shelf = new Lamp[2]; }
        @Override int kind() { return 4; }
        @Override int take(int n) { int c = super.take(n); mark = n; return c; }
        int glow() { return weigh() + 5; }
    }

    private static class Lantern extends Lamp {
        int own;

        @Override int kind() { return 5; }
        @Override int ownMark() { return own; }
        @Override void ownMark(int n) { own = n; }
        @Override int weigh() { return super.weigh() - own; }
        @Override int take(int n) { super.take(n); return mark; }
        @Override int glow() { return 3 * count; }
    }

    private static int message(int m, Box t, int n) {
        int was;
        switch (m) {
            case 0: return t.weigh();
            case 1: return t.take(n);
            case 2: return ((Lamp) t).glow();
            case 3: return t.open();
            case 4: return t.mark;
            case 5: return ((Crate) t).own;
            case 6: was = t.mark; t.mark = n; return was;
            case 7: was = ((Crate) t).own; ((Crate) t).own = n; return was;
            default: was = ((Lantern) t).own; ((Lantern) t).own = n; return was;
        }
    }

    // ---- state

    private static final class Routine {
        int locals;
        int lastPlace = NONE;
        final List<int[]> ops = new ArrayList<>();
        final List<int[]> guards = new ArrayList<>();

        boolean has(int place) { return place >= 0 && place < ops.size(); }
    }

    private static final class Keeping {
        Object[] rows;
        final List<int[]> marks = new ArrayList<>();
        final List<Box[]> shelves = new ArrayList<>();
    }

    private Object[] rows = new Object[12];
    private final List<Box> things = new ArrayList<>();
    private final List<Routine> routines = new ArrayList<>();
    private final List<Keeping> kept = new ArrayList<>();
    private final List<Long> output = new ArrayList<>();
    private int keepings, steps, faults, took, lasts, open, most;
    private long result;
    private StoryFault end;

    // ---- rows

    private static boolean is(long v, int bound) { return v >= 0 && v < bound; }

    private static final Class<?>[] LANES = {boolean.class, byte.class, short.class, char.class,
        int.class, long.class, float.class, double.class};

    private static int laneOf(Object row) {
        Class<?> c = row.getClass().getComponentType();
        for (int k = 0; k < 8; k++) if (LANES[k] == c) return k;
        throw new IllegalStateException();
    }

    private static Object make(int lane, long n) {
        if (n < 0) throw new NegativeArraySizeException();
        if (n > 12) throw new IllegalArgumentException();
        return Array.newInstance(LANES[lane], (int) n);
    }

    private static int index(long i) { return i == (int) i ? (int) i : -1; }

    private static long ask(Object row, long at, int lane) {
        int i = index(at);
        switch (lane) {
            case 0: return Array.getBoolean(row, i) ? 1 : 0;
            case 1: return Array.getByte(row, i);
            case 2: return Array.getShort(row, i);
            case 3: return Array.getChar(row, i);
            case 4: return Array.getInt(row, i);
            case 5: return Array.getLong(row, i);
            case 6: return (long) Array.getFloat(row, i);
            default: return (long) Array.getDouble(row, i);
        }
    }

    private static void feed(Object row, long at, int lane, long x) {
        int i = index(at);
        switch (lane) {
            case 0: Array.setBoolean(row, i, x % 2 != 0); break;
            case 1: Array.setByte(row, i, (byte) x); break;
            case 2: Array.setShort(row, i, (short) x); break;
            case 3: Array.setChar(row, i, (char) x); break;
            case 4: Array.setInt(row, i, (int) x); break;
            case 5: Array.setLong(row, i, x); break;
            case 6: Array.setFloat(row, i, x); break;
            default: Array.setDouble(row, i, x);
        }
    }

    private static long read(Object row, long at, int lane) {
        int i = index(at);
        if (row == null) throw new NullPointerException();
        switch (lane) {
            case 0: return ((boolean[]) row)[i] ? 1 : 0;
            case 1: return ((byte[]) row)[i];
            case 2: return ((short[]) row)[i];
            case 3: return ((char[]) row)[i];
            case 4: return ((int[]) row)[i];
            case 5: return ((long[]) row)[i];
            case 6: return (long) ((float[]) row)[i];
            default: return (long) ((double[]) row)[i];
        }
    }

    private static void write(Object row, long at, int lane, long x) {
        int i = index(at);
        if (row == null) throw new NullPointerException();
        switch (lane) {
            case 0: ((boolean[]) row)[i] = (x & 1) == 1; break;
            case 1: ((byte[]) row)[i] = (byte) x; break;
            case 2: ((short[]) row)[i] = (short) x; break;
            case 3: ((char[]) row)[i] = (char) x; break;
            case 4: ((int[]) row)[i] = (int) x; break;
            case 5: ((long[]) row)[i] = x; break;
            case 6: ((float[]) row)[i] = x; break;
            default: ((double[]) row)[i] = x;
        }
    }

    private static Object[] copy(Object[] rows) {
        Map<Object, Object> copies = new IdentityHashMap<>();
        Object[] made = new Object[12];
        for (int r = 0; r < 12; r++) {
            Object row = rows[r];
            if (row == null) continue;
            if (!copies.containsKey(row)) {
                Class<?> lane = row.getClass().getComponentType();
                Object c = Array.newInstance(lane, Array.getLength(row));
                System.arraycopy(row, 0, c, 0, Array.getLength(row));
                copies.put(row, c);
            }
            made[r] = copies.get(row);
        }
        return made;
    }

    // ---- the face, as one call

    long call(String name, long... v) {
        int a = v.length > 0 ? (int) v[0] : 0, b = v.length > 1 ? (int) v[1] : 0;
        int c = v.length > 2 ? (int) v[2] : 0, d = v.length > 3 ? (int) v[3] : 0;
        switch (name) {
            case "row": return row(a, b, c);
            case "miss": return miss(a);
            case "share": return share(a, b);
            case "put": return put(a, b, v[2]);
            case "item": return is(a, 12) && rows[a] != null && is(b, Array.getLength(rows[a]))
                ? read(rows[a], b, laneOf(rows[a])) : 0;
            case "about": return about(a, b);
            case "thing": return thing(a);
            case "of": return of(a, b);
            case "routine": return routine(a);
            case "op": return op(a, b, c, d);
            case "guard": return guard(a, b, c, d, (int) v[4]);
            case "last": return last(a, b);
            case "run": return run(a, v[1], v[2]);
            case "result": return result;
            case "told": return told(a);
            case "number": return end == null ? 0 : end.number;
            case "output": return is(a, output.size()) ? output.get(a) : 0;
            case "count": return count(a, b);
            default: int n = kept.size(); kept.clear(); return n;
        }
    }

    private int row(int r, int lane, int n) {
        if (!is(r, 12) || !is(lane, 8)) return BAD;
        try {
            rows[r] = make(lane, n);
            return n;
        } catch (RuntimeException e) {
            return -10 - toFault(e).code;
        }
    }

    private int miss(int r) {
        if (!is(r, 12)) return BAD;
        int was = rows[r] == null ? 0 : 1;
        rows[r] = null;
        return was;
    }

    private int share(int r, int s) {
        if (!is(r, 12) || !is(s, 12)) return BAD;
        if (rows[r] == rows[s]) return 0;
        rows[r] = rows[s];
        return 1;
    }

    private int put(int r, int i, long x) {
        if (!is(r, 12)) return BAD;
        try {
            write(rows[r], i, rows[r] == null ? 0 : laneOf(rows[r]), x);
            return 1;
        } catch (RuntimeException e) {
            return -10 - toFault(e).code;
        }
    }

    private int about(int r, int what) {
        if (!is(r, 12) || !is(what, 3)) return BAD;
        if (what == 2) {
            for (int k = 0; k < r; k++) if (rows[k] == rows[r]) return k;
            return r;
        }
        if (rows[r] == null) return NONE;
        return what == 0 ? Array.getLength(rows[r]) : laneOf(rows[r]);
    }

    private int thing(int kind) {
        if (!is(kind, 6)) return BAD;
        if (things.size() == 12) return FULL;
        Box[] one = {new Box(), new Crate(), new Cage(), new Cart(), new Lamp(), new Lantern()};
        things.add(one[kind]);
        return things.size() - 1;
    }

    private int of(int t, int what) {
        if (!is(t, things.size())) return 0;
        Box box = things.get(t);
        int[] plain = {box.kind(), box.count, box.mark, box.ownMark(), box.shelf.length};
        if (is(what, 5)) return plain[what];
        if (what < 0 || what - 5 >= box.shelf.length) return 0;
        return things.indexOf(box.shelf[what - 5]);
    }

    private int routine(int locals) {
        if (locals < 1 || locals > 6) return BAD;
        if (routines.size() == 12) return FULL;
        Routine made = new Routine();
        made.locals = locals;
        routines.add(made);
        return routines.size() - 1;
    }

    private int op(int k, int op, int a, int b) {
        if (!is(k, routines.size()) || !is(op, 30)) return BAD;
        Routine told = routines.get(k);
        if ((op == 1 || op == 2) && !is(a, told.locals)) return BAD;
        if ((op == 10 || op == 11) && !is(a, 30)) return BAD;
        if ((op >= 12 && op <= 18 || op == 29 || op == 19) && !is(a, 12)) return BAD;
        if (op == 23 && !is(a, 9)) return BAD;
        if ((op == 12 || op == 13 || op == 15 || op == 17 || op == 18) && !is(b, 8)) return BAD;
        if (op == 19 && !is(b, 7)) return BAD;
        if (op == 29 && !is(b, 12)) return BAD;
        if (told.ops.size() == 30) return FULL;
        told.ops.add(new int[] {op, a, b});
        return told.ops.size() - 1;
    }

    private int guard(int k, int from, int to, int code, int handler) {
        if (!is(k, routines.size())) return BAD;
        if (from < 0 || from >= to || to > 30 || !is(code, 13) || !is(handler, 30)) return BAD;
        Routine told = routines.get(k);
        if (told.guards.size() == 4) return FULL;
        told.guards.add(new int[] {from, to, code, handler});
        return told.guards.size() - 1;
    }

    private int last(int k, int place) {
        if (!is(k, routines.size()) || place < -1 || place > 29) return BAD;
        int was = routines.get(k).lastPlace;
        routines.get(k).lastPlace = place;
        return was;
    }

    private int told(int what) {
        switch (what) {
            case 0: return end == null ? 0 : end.code;
            case 1: return end == null ? NONE : end.routine;
            case 2: return end == null ? NONE : end.place;
            case 3: return steps;
            case 4: return faults;
            case 5: return took;
            case 6: return lasts;
            case 7: return most;
            default: return BAD;
        }
    }

    private int count(int what, int k) {
        if (what == 0) return things.size();
        if (what == 1) return routines.size();
        if (what == 2) return kept.size();
        if (what == 3) return output.size();
        if (what < 0 || what > 6 || !is(k, routines.size())) return BAD;
        Routine told = routines.get(k);
        return what == 4 ? told.locals : what == 5 ? told.ops.size() : told.guards.size();
    }

    private int run(int k, long x, long y) {
        if (!is(k, routines.size()) || routines.get(k).ops.isEmpty()) return BAD;
        keepings = steps = faults = took = lasts = open = most = 0;
        result = 0;
        end = null;
        output.clear();
        long[] locals = new long[6];
        locals[0] = x;
        locals[1] = y;
        try {
            result = new Open(k, locals).go();
            return 0;
        } catch (StoryFault fault) {
            end = fault;
            return 1;
        } catch (Spent spent) {
            return 2;
        }
    }

    // ---- an open routine

    private final class Open {
        final int number;
        final Routine routine;
        final long[] locals;
        final List<Long> pile = new ArrayList<>();
        int place = 0, next;
        boolean lastBegan, ended;
        long value;
        StoryFault asideFault;
        long asideValue;

        Open(int number, long[] locals) {
            this.number = number;
            this.routine = routines.get(number);
            this.locals = locals;
        }

        long go() {
            open++;
            most = Math.max(most, open);
            try {
                while (!ended) turn();
                return value;
            } finally {
                open--;
            }
        }

        void turn() {
            if (steps == 300) throw new Spent();
            steps++;
            try {
                next = place + 1;
                int[] op = routine.ops.get(place);
                if (op[0] == 20) {
                    returned(pop(1)[0]);
                } else if (op[0] == 22 && lastBegan) {
                    if (asideFault == null) finish(asideValue);
                    else throw new Leaving(asideFault);
                } else {
                    does(op[0], op[1], op[2]);
                    if (!routine.has(next)) throw new StoryFault(10, 0);
                    place = next;
                }
            } catch (Leaving leaving) {
                throw leaving.fault;
            } catch (Spent spent) {
                throw spent;
            } catch (RuntimeException e) {
                came(toFault(e));
            }
        }

        void finish(long x) {
            ended = true;
            value = x;
        }

        boolean beginLast() {
            if (lastBegan || !routine.has(routine.lastPlace)) return false;
            lastBegan = true;
            lasts++;
            pile.clear();
            place = routine.lastPlace;
            return true;
        }

        void returned(long x) {
            if (beginLast()) {
                asideFault = null;
                asideValue = x;
            } else {
                finish(x);
            }
        }

        void came(StoryFault fault) {
            if (fault.routine == NONE) {
                fault.routine = number;
                fault.place = place;
                if (++faults == 25) throw new Spent();
            }
            for (int[] g : routine.guards) {
                if (place < g[0] || place >= g[1]) continue;
                if (g[2] != 0 && g[2] != fault.code || !routine.has(g[3])) continue;
                took++;
                pile.clear();
                pile.add(fault.number);
                pile.add((long) fault.code);
                place = g[3];
                return;
            }
            if (!beginLast()) throw fault;
            asideFault = fault;
        }

        long[] pop(int n) {
            if (pile.size() < n) throw new StoryFault(8, 0);
            long[] taken = new long[n];
            for (int k = n - 1; k >= 0; k--) taken[k] = pile.remove(pile.size() - 1);
            return taken;
        }

        void push(long v) {
            if (pile.size() == 8) throw new StoryFault(8, 0);
            pile.add(v);
        }

        Box thingOf(long t) {
            if (!is(t, things.size())) throw new NullPointerException();
            return things.get((int) t);
        }

        void does(int op, int a, int b) {
            long[] v;
            switch (op) {
                case 0: push(a); break;
                case 1: push(locals[a]); break;
                case 2: locals[a] = pop(1)[0]; break;
                case 3: v = pop(2); push(v[0] + v[1]); break;
                case 4: v = pop(2); push(v[0] - v[1]); break;
                case 5: v = pop(2); push(v[0] * v[1]); break;
                case 6: v = pop(2); push(v[0] / v[1]); break;
                case 7: v = pop(2); push(v[0] % v[1]); break;
                case 8: v = pop(2); push(v[0] < v[1] ? 1 : 0); break;
                case 9: v = pop(2); push(v[0] == v[1] ? 1 : 0); break;
                case 10: next = a; break;
                case 11: if (pop(1)[0] == 0) next = a; break;
                case 12: push(read(rows[a], pop(1)[0], b)); break;
                case 13: v = pop(2); write(rows[a], v[0], b, v[1]); break;
                case 14: push(Array.getLength(rows[a])); break;
                case 15: rows[a] = make(b, pop(1)[0]); break;
                case 16: rows[a] = null; break;
                case 17: push(ask(rows[a], pop(1)[0], b)); break;
                case 18: v = pop(2); feed(rows[a], v[0], b, v[1]); break;
                case 19: calls(a, b); break;
                case 21: throw new StoryFault(11, pop(1)[0]);
                case 22: throw new StoryFault(10, 0);
                case 23: v = pop(a == 1 || a >= 6 ? 2 : 1);
                    push(message(a, thingOf(v[0]), v.length == 2 ? (int) v[1] : 0)); break;
                case 24: v = pop(3); shelve(v[0], v[1], v[2]); break;
                case 25: v = pop(2); push(things.indexOf(thingOf(v[0]).shelf[index(v[1])])); break;
                case 26: long x = pop(1)[0]; if (output.size() < 60) output.add(x); break;
                case 27: push(keep()); break;
                case 28: push(back()); break;
                default: rows[a] = rows[b];
            }
        }

        void shelve(long s, long i, long t) {
            Box box = thingOf(s);
            Box put = t == -1 ? null : thingOf(t);
            box.shelf[index(i)] = put;
        }

        void calls(int a, int b) {
            if (b == 0 && pile.size() == 8) throw new StoryFault(8, 0);
            long[] v = pop(b);
            if (!is(a, routines.size()) || routines.get(a).ops.isEmpty()) {
                throw new NullPointerException();
            }
            if (b > routines.get(a).locals) throw new IllegalArgumentException();
            if (open == 12) throw new StoryFault(9, 0);
            long[] inner = new long[6];
            System.arraycopy(v, 0, inner, 0, b);
            push(new Open(a, inner).go());
        }
    }

    private static final class Leaving extends RuntimeException {
        private static final long serialVersionUID = 1;
        final transient StoryFault fault;

        Leaving(StoryFault fault) {
            super(null, null, false, false);
            this.fault = fault;
        }
    }

    private long keep() {
        if (kept.size() == 3 || keepings == 6) throw new IllegalArgumentException();
        keepings++;
        Keeping made = new Keeping();
        made.rows = copy(rows);
        for (Box box : things) {
            made.marks.add(new int[] {box.count, box.mark, box.ownMark()});
            made.shelves.add(box.shelf.clone());
        }
        kept.add(made);
        return kept.size();
    }

    private long back() {
        if (kept.isEmpty()) return 0;
        Keeping latest = kept.remove(kept.size() - 1);
        rows = latest.rows;
        for (int t = 0; t < latest.marks.size(); t++) {
            Box box = things.get(t);
            box.count = latest.marks.get(t)[0];
            box.mark = latest.marks.get(t)[1];
            box.ownMark(latest.marks.get(t)[2]);
            box.shelf = latest.shelves.get(t);
        }
        return 1;
    }
}
