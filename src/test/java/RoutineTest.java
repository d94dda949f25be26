/** Promises 10 to 13 and 19: routine, op, guard, last, count. */
final class RoutineTest {
    private static final int BAD = StoryClasses.BAD, FULL = StoryClasses.FULL;
    private static final int NONE = StoryClasses.NONE;

    private RoutineTest() { }

    public static void main(String[] args) {
        routines();
        opsTakeTheirNumbers();
        opsFill();
        guards();
        lasts();
        counts();
        Due.end();
    }

    private static void routines() {
        StoryClasses x = new StoryClasses();
        Due.due("no locals", x.routine(0), BAD);
        Due.due("seven locals", x.routine(7), BAD);
        Due.due("below", x.routine(-1), BAD);
        for (int k = 0; k < 12; k++) Due.due("routine", x.routine(1 + k % 6), k);
        Due.due("full", x.routine(6), FULL);
        Due.due("bad comes first", x.routine(7), BAD);
        Due.due("twelve", x.count(1, 0), 12);
        for (int k = 0; k < 12; k++) Due.due("locals", x.count(4, k), 1 + k % 6);
    }

    /** Of an OP the least and greatest a and b that it may have; where any may be, the extremes. */
    private static void bounds(int op, int leastA, int mostA, int leastB, int mostB) {
        StoryClasses x = new StoryClasses();
        x.routine(3);
        String call = "op " + op;
        Due.due(call, x.op(0, op, leastA, leastB), 0);
        Due.due(call, x.op(0, op, mostA, mostB), 1);
        if (leastA != Integer.MIN_VALUE) {
            Due.due(call + " a below", x.op(0, op, leastA - 1, leastB), BAD);
            Due.due(call + " a above", x.op(0, op, mostA + 1, leastB), BAD);
        }
        if (leastB != Integer.MIN_VALUE) {
            Due.due(call + " b below", x.op(0, op, leastA, leastB - 1), BAD);
            Due.due(call + " b above", x.op(0, op, leastA, mostB + 1), BAD);
        }
        Due.due(call + ": refused ones change nothing", x.count(5, 0), 2);
    }

    private static void opsTakeTheirNumbers() {
        int least = Integer.MIN_VALUE, most = Integer.MAX_VALUE;
        for (int op = 0; op < 30; op++) {
            switch (op) {
                case 1: case 2: bounds(op, 0, 2, least, most); break;
                case 10: case 11: bounds(op, 0, 29, least, most); break;
                case 12: case 13: case 15: case 17: case 18: bounds(op, 0, 11, 0, 7); break;
                case 14: case 16: bounds(op, 0, 11, least, most); break;
                case 19: bounds(op, 0, 11, 0, 6); break;
                case 23: bounds(op, 0, 8, least, most); break;
                case 29: bounds(op, 0, 11, 0, 11); break;
                default: bounds(op, least, most, least, most);
            }
        }
    }

    private static void opsFill() {
        StoryClasses x = new StoryClasses();
        Due.due("no such routine", x.op(0, 0, 0, 0), BAD);
        x.routine(1);
        Due.due("no such op", x.op(0, 30, 0, 0), BAD);
        Due.due("no such op", x.op(0, -1, 0, 0), BAD);
        Due.due("no such routine", x.op(1, 0, 0, 0), BAD);
        Due.due("no such routine", x.op(-1, 0, 0, 0), BAD);
        for (int k = 0; k < 30; k++) Due.due("op", x.op(0, 0, k, 0), k);
        Due.due("full", x.op(0, 0, 0, 0), FULL);
        Due.due("bad comes first", x.op(0, 30, 0, 0), BAD);
        Due.due("thirty", x.count(5, 0), 30);
    }

    private static void guards() {
        StoryClasses x = new StoryClasses();
        Due.due("no such routine", x.guard(0, 0, 1, 0, 0), BAD);
        x.routine(1);
        Due.due("no such routine", x.guard(-1, 0, 1, 0, 0), BAD);
        Due.due("from below", x.guard(0, -1, 1, 0, 0), BAD);
        Due.due("from is to", x.guard(0, 1, 1, 0, 0), BAD);
        Due.due("from above to", x.guard(0, 2, 1, 0, 0), BAD);
        Due.due("to above", x.guard(0, 0, 31, 0, 0), BAD);
        Due.due("code below", x.guard(0, 0, 1, -1, 0), BAD);
        Due.due("code above", x.guard(0, 0, 1, 13, 0), BAD);
        Due.due("handler below", x.guard(0, 0, 1, 0, -1), BAD);
        Due.due("handler above", x.guard(0, 0, 1, 0, 30), BAD);
        Due.due("none yet", x.count(6, 0), 0);
        Due.due("guard", x.guard(0, 0, 30, 12, 29), 0);
        Due.due("guard", x.guard(0, 29, 30, 0, 0), 1);
        Due.due("guard", x.guard(0, 0, 1, 0, 0), 2);
        Due.due("guard", x.guard(0, 0, 1, 0, 0), 3);
        Due.due("full", x.guard(0, 0, 1, 0, 0), FULL);
        Due.due("bad comes first", x.guard(0, 0, 0, 0, 0), BAD);
        Due.due("four", x.count(6, 0), 4);
    }

    private static void lasts() {
        StoryClasses x = new StoryClasses();
        Due.due("no such routine", x.last(0, 0), BAD);
        x.routine(1);
        Due.due("no such routine", x.last(-1, 0), BAD);
        Due.due("none at first", x.last(0, 29), NONE);
        Due.due("above", x.last(0, 30), BAD);
        Due.due("below", x.last(0, -2), BAD);
        Due.due("what was told", x.last(0, 0), 29);
        Due.due("what was told", x.last(0, NONE), 0);
        Due.due("none again", x.last(0, NONE), NONE);
    }

    private static void counts() {
        StoryClasses x = new StoryClasses();
        Due.tell(x, 4, 0, 1, 0, 26, 0, 0, 0, 7, 0, 20, 0, 0);
        x.thing(0);
        x.guard(0, 0, 1, 0, 0);
        x.run(0, 0, 0);
        int[] want = {1, 1, 0, 1, 4, 4, 1};
        for (int what = 0; what < 7; what++) Due.due("count " + what, x.count(what, 0), want[what]);
        for (int what = 0; what < 4; what++) Due.due("k is free", x.count(what, -7), want[what]);
        for (int what = 4; what < 7; what++) {
            Due.due("no such routine", x.count(what, 1), BAD);
            Due.due("no such routine", x.count(what, -1), BAD);
        }
        Due.due("no such count", x.count(7, 0), BAD);
        Due.due("no such count", x.count(-1, 0), BAD);
    }
}
