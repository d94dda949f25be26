/** Promises 10 to 13: routine, op, guard, last. */
final class RoutineTest {
    private static final int BAD = StoryClasses.BAD, FULL = StoryClasses.FULL;
    private static final int NONE = StoryClasses.NONE;
    private static final int MAX = Integer.MAX_VALUE, MIN = Integer.MIN_VALUE;

    private RoutineTest() { }

    public static void main(String[] args) {
        routine();
        op();
        opBad();
        opNumbers();
        opFull();
        guard();
        guardBad();
        guardFull();
        last();
        Due.end();
    }

    private static void routine() {
        Due.says("Promise 10", "A ROUTINE with so many LOCALS: its number.");
        StoryClasses x = new StoryClasses();
        for (int k = 0; k < 12; k++) Due.due("routine", x.routine(1 + k % 6), k);
        for (int k = 0; k < 12; k++) {
            Due.due("locals", x.count(4, k), 1 + k % 6);
            Due.due("no ops", x.count(5, k), 0);
            Due.due("no guards", x.count(6, k), 0);
            Due.due("no last", x.last(k, NONE), NONE);
        }
        Due.says("Promise 10", "BAD;");
        StoryClasses y = new StoryClasses();
        for (int locals : new int[] {MIN, -1, 0, 7, MAX}) {
            Due.due("locals " + locals, y.routine(locals), BAD);
            Due.due("locals " + locals + ", when full", x.routine(locals), BAD);
        }
        Due.due("none came", y.count(1, 0), 0);
        Due.says("Promise 10", "FULL.");
        for (int locals = 1; locals < 7; locals++) Due.due("full", x.routine(locals), FULL);
        Due.due("none came", x.count(1, 0), 12);
    }

    private static void op() {
        Due.says("Promise 11", "An OP more: its place.");
        StoryClasses x = new StoryClasses();
        x.routine(1);
        x.routine(1);
        for (int k = 0; k < 30; k++) Due.due("op", x.op(0, k, 0, 0), k);
        Due.due("of another routine", x.op(1, 29, 11, 11), 0);
        Due.due("of another routine", x.op(1, 0, 5, 0), 1);
        Due.due("of another routine", x.op(1, 20, 0, 0), 2);
        Due.gives("they are done", x, 1, 5);
    }

    private static void opBad() {
        Due.says("Promise 11", "BAD: no such ROUTINE;");
        StoryClasses x = new StoryClasses();
        Due.due("none yet", x.op(0, 0, 0, 0), BAD);
        x.routine(1);
        for (int k : new int[] {MIN, -1, 1, 12, MAX}) {
            Due.due("routine " + k, x.op(k, 0, 0, 0), BAD);
        }
        Due.says("Promise 11", "op is not 0 to 29;");
        for (int op : new int[] {MIN, -1, 30, MAX}) Due.due("op " + op, x.op(0, op, 0, 0), BAD);
        Due.due("none came", x.count(5, 0), 0);
    }

    /** Of an OP the least and greatest a and b that it may have; where any may be, the extremes. */
    private static void bounds(int locals, int op, int mostA, int mostB) {
        StoryClasses x = new StoryClasses();
        x.routine(locals);
        String call = "op " + op;
        int leastA = mostA == MAX ? MIN : 0, leastB = mostB == MAX ? MIN : 0;
        Due.due(call, x.op(0, op, leastA, leastB), 0);
        Due.due(call, x.op(0, op, mostA, mostB), 1);
        for (int a : new int[] {MIN, -1, mostA + 1, MAX}) {
            if (mostA != MAX) Due.due(call + " a " + a, x.op(0, op, a, leastB), BAD);
        }
        for (int b : new int[] {MIN, -1, mostB + 1, MAX}) {
            if (mostB != MAX) Due.due(call + " b " + b, x.op(0, op, leastA, b), BAD);
        }
        Due.due(call + ": refused ones change nothing", x.count(5, 0), 2);
    }

    private static void bounds(int[] ops, int mostA, int mostB) {
        for (int op : ops) bounds(1, op, mostA, mostB);
    }

    private static void opNumbers() {
        Due.says("Promise 11", "a of 1, 2 no LOCAL,");
        for (int locals = 1; locals < 7; locals++) {
            bounds(locals, 1, locals - 1, MAX);
            bounds(locals, 2, locals - 1, MAX);
        }
        Due.says("Promise 11", "of 10, 11 not 0 to 29,");
        bounds(new int[] {10, 11}, 29, MAX);
        Due.says("Promise 11", "of 12 to 18, 29 no ROW,");
        bounds(new int[] {14, 16}, 11, MAX);
        bounds(new int[] {12, 13, 15, 17, 18}, 11, 7);
        bounds(1, 29, 11, 11);
        Due.says("Promise 11", "of 19 not 0 to 11,");
        bounds(1, 19, 11, 6);
        Due.says("Promise 11", "of 23 not 0 to 8;");
        bounds(1, 23, 8, MAX);
        Due.says("Promise 11", "b of 12, 13, 15, 17, 18 no LANE,");
        bounds(new int[] {12, 13, 15, 17, 18}, 11, 7);
        Due.says("Promise 11", "of 19 not 0 to 6,");
        bounds(1, 19, 11, 6);
        Due.says("Promise 11", "of 29 no ROW.");
        bounds(1, 29, 11, 11);
        Due.says("Promise 11", "An OP more: its place.");
        bounds(new int[] {0, 3, 4, 5, 6, 7, 8, 9, 20, 21, 22, 24, 25, 26, 27, 28}, MAX, MAX);
    }

    private static void opFull() {
        Due.says("Promise 11", "FULL.");
        StoryClasses x = new StoryClasses();
        x.routine(1);
        x.routine(1);
        for (int k = 0; k < 30; k++) x.op(0, 0, k, 0);
        for (int op = 0; op < 30; op++) Due.due("full, op " + op, x.op(0, op, 0, 0), FULL);
        Due.due("thirty", x.count(5, 0), 30);
        Due.due("BAD comes first: op", x.op(0, 30, 0, 0), BAD);
        Due.due("BAD comes first: a", x.op(0, 12, 12, 0), BAD);
        Due.due("BAD comes first: b", x.op(0, 12, 0, 8), BAD);
        Due.due("another routine is not", x.op(1, 0, 0, 0), 0);
    }

    private static void guard() {
        Due.says("Promise 12", "A GUARD more: its number.");
        StoryClasses x = new StoryClasses();
        x.routine(1);
        x.routine(1);
        Due.due("the widest", x.guard(0, 0, 30, 12, 29), 0);
        Due.due("the last place", x.guard(0, 29, 30, 0, 0), 1);
        Due.due("the first place", x.guard(0, 0, 1, 0, 0), 2);
        Due.due("the same again", x.guard(0, 0, 1, 0, 0), 3);
        Due.due("of another routine", x.guard(1, 4, 9, 7, 20), 0);
        Due.due("four", x.count(6, 0), 4);
        Due.due("one", x.count(6, 1), 1);
    }

    private static void guardBad() {
        Due.says("Promise 12", "BAD: not 0 .. from below to .. 30;");
        StoryClasses x = new StoryClasses();
        Due.due("no such routine", x.guard(0, 0, 1, 0, 0), BAD);
        x.routine(1);
        for (int k : new int[] {MIN, -1, 1, 12, MAX}) {
            Due.due("no such routine", x.guard(k, 0, 1, 0, 0), BAD);
        }
        int[][] wrong = {{-1, 1}, {MIN, 1}, {MIN, MAX}, {-1, 0}, {0, 0}, {1, 1}, {2, 1}, {29, 29},
            {30, 30}, {0, 31}, {29, 31}, {30, 31}, {0, MAX}, {0, -1}, {0, MIN}, {MAX, MIN}};
        for (int[] v : wrong) {
            Due.due("from " + v[0] + " to " + v[1], x.guard(0, v[0], v[1], 0, 0), BAD);
        }
        Due.says("Promise 12", "code is not 0 to 12;");
        for (int code : new int[] {MIN, -1, 13, MAX}) {
            Due.due("code " + code, x.guard(0, 0, 1, code, 0), BAD);
        }
        Due.says("Promise 12", "handler not 0 to 29.");
        for (int handler : new int[] {MIN, -1, 30, MAX}) {
            Due.due("handler " + handler, x.guard(0, 0, 1, 0, handler), BAD);
        }
        Due.due("none came", x.count(6, 0), 0);
        for (int code = 0; code < 13; code++) {
            StoryClasses y = new StoryClasses();
            y.routine(1);
            Due.due("code " + code, y.guard(0, code, code + 1, code, 29 - code), 0);
        }
    }

    private static void guardFull() {
        Due.says("Promise 12", "FULL.");
        StoryClasses x = new StoryClasses();
        x.routine(1);
        x.routine(1);
        for (int k = 0; k < 4; k++) x.guard(0, 0, 1, 0, 0);
        Due.due("full", x.guard(0, 0, 1, 0, 0), FULL);
        Due.due("four", x.count(6, 0), 4);
        Due.due("BAD comes first: to", x.guard(0, 0, 0, 0, 0), BAD);
        Due.due("BAD comes first: code", x.guard(0, 0, 1, 13, 0), BAD);
        Due.due("BAD comes first: handler", x.guard(0, 0, 1, 0, 30), BAD);
        Due.due("another routine is not", x.guard(1, 0, 1, 0, 0), 0);
    }

    private static void last() {
        Due.says("Promise 13",
            "The LAST of a ROUTINE begins at a place (0 to 29), or there is none (NONE):");
        StoryClasses x = new StoryClasses();
        Due.tell(x, 1, "0 1; 20; 0 2; 20");
        x.routine(1);
        Due.due("a place without an op", x.last(0, 29), NONE);
        Due.gives("none there", x, 0, 1);
        Due.due("a place with one", x.last(0, 2), 29);
        Due.gives("it is there", x, 0, 2);
        Due.due("the first place", x.last(0, 0), 2);
        Due.gives("it is there", x, 0, 1);
        Due.due("it began", x.told(6), 1);
        Due.due("none", x.last(0, NONE), 0);
        Due.gives("none there", x, 0, 1);
        Due.due("none began", x.told(6), 0);
        Due.says("Promise 13", "what was told (NONE at first).");
        Due.due("at first", x.last(1, NONE), NONE);
        Due.due("none again", x.last(1, 0), NONE);
        for (int place = 0; place < 29; place++) {
            Due.due("what was told", x.last(1, place + 1), place);
        }
        Due.due("the same again", x.last(1, 29), 29);
        Due.due("of another routine", x.last(0, 5), NONE);
        Due.says("Promise 13", "BAD.");
        for (int k : new int[] {MIN, -1, 2, 12, MAX}) {
            Due.due("routine " + k, x.last(k, 0), BAD);
            Due.due("routine " + k, x.last(k, NONE), BAD);
        }
        for (int place : new int[] {MIN, -2, 30, MAX}) {
            Due.due("place " + place, x.last(0, place), BAD);
        }
        Due.due("as it was", x.last(0, 5), 5);
    }
}
