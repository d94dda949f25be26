import java.util.function.ToLongFunction;

/** The head of the Terms: BAD and FULL, what is refused, how numbers wrap and are given. */
final class AnswersTest {
    private static final int BAD = StoryClasses.BAD, FULL = StoryClasses.FULL;
    private static final long MOST = Long.MAX_VALUE, LEAST = Long.MIN_VALUE;
    private static final int MAX = Integer.MAX_VALUE, MIN = Integer.MIN_VALUE;
    private static final int[] EXTREMES = {MIN, MIN + 1, -2, -1, 0, 1, 4, 5, 6, 7, 8, 11, 12, 13,
        29, 30, 31, 60, MAX - 1, MAX};

    private AnswersTest() { }

    public static void main(String[] args) {
        bad();
        firstThatFits();
        refusedCalls();
        refusedLasts();
        refusedOps();
        wrapping();
        numbered();
        anyNumbers();
        manyCalls();
        Due.end();
    }

    private static void bad() {
        Due.says("Terms", "Answers: BAD -1000000 (a number is not as told; no such thing)");
        StoryClasses x = new StoryClasses();
        x.routine(1);
        Due.due("BAD", StoryClasses.BAD, -1000000);
        Due.due("row", x.row(12, 0, 0), -1000000);
        Due.due("miss", x.miss(12), -1000000);
        Due.due("share", x.share(12, 0), -1000000);
        Due.due("put", x.put(12, 0, 0), -1000000);
        Due.due("about", x.about(0, 3), -1000000);
        Due.due("thing", x.thing(6), -1000000);
        Due.due("routine", x.routine(7), -1000000);
        Due.due("op", x.op(0, 30, 0, 0), -1000000);
        Due.due("op of no routine", x.op(1, 0, 0, 0), -1000000);
        Due.due("guard", x.guard(0, 1, 1, 0, 0), -1000000);
        Due.due("guard of no routine", x.guard(1, 0, 1, 0, 0), -1000000);
        Due.due("last", x.last(0, 30), -1000000);
        Due.due("last of no routine", x.last(1, 0), -1000000);
        Due.due("run of no routine", x.run(1, 0, 0), -1000000);
        Due.due("told", x.told(8), -1000000);
        Due.due("count", x.count(7, 0), -1000000);
    }

    private static void firstThatFits() {
        Due.says("Terms", "FULL -1000001, the first that fits");
        StoryClasses x = rich();
        Due.due("FULL", StoryClasses.FULL, -1000001);
        Due.due("the 13th thing", x.thing(0), -1000001);
        Due.due("the 13th routine", x.routine(1), -1000001);
        Due.due("the 31st op", x.op(0, 0, 0, 0), -1000001);
        Due.due("the 5th guard", x.guard(0, 0, 1, 0, 0), -1000001);
        Due.due("BAD before FULL: thing", x.thing(6), BAD);
        Due.due("BAD before FULL: routine", x.routine(0), BAD);
        Due.due("BAD before FULL: op", x.op(0, 30, 0, 0), BAD);
        Due.due("BAD before FULL: op's a", x.op(0, 1, 2, 0), BAD);
        Due.due("BAD before FULL: guard", x.guard(0, 0, 31, 0, 0), BAD);
        Due.due("BAD before SIZE", x.row(12, 0, -1), BAD);
        Due.due("BAD before ARGUMENT", x.row(0, 8, 13), BAD);
        Due.due("BAD before NOTHING", x.put(12, -1, 0), BAD);
    }

    /** 12 THINGS, 12 ROUTINES (0 has 30 OPS and 4 GUARDS, 11 no OPS), some ROWS, 3 KEPT, a RUN. */
    private static StoryClasses rich() {
        StoryClasses x = new StoryClasses();
        for (int t = 0; t < 12; t++) x.thing(t % 6);
        x.row(0, 4, 3);
        x.put(0, 1, 11);
        x.share(2, 0);
        x.row(1, 7, 12);
        x.put(1, 11, -5);
        Due.tell(x, 2, Due.times(3, "27; 26") + "; 0 0; 0 3; 0 7; 24; 0 2; 0 4; 23 1; 21; "
            + Due.times(15, "22") + "; 0 1");
        for (int k = 0; k < 4; k++) x.guard(0, 29, 30, 0, 0);
        for (int k = 1; k < 12; k++) x.routine(1 + k % 6);
        for (int k = 1; k < 11; k++) x.op(k, 22, 0, 0);
        x.run(0, 1, 2);
        return x;
    }

    private static void refused(String call, long want, ToLongFunction<StoryClasses> refusal) {
        StoryClasses x = rich();
        String before = Seen.all(x);
        StoryClasses y = rich();
        Due.due(call, refusal.applyAsLong(y), want);
        Due.holds(call + " changes nothing", Seen.all(y).equals(before));
    }

    private static void refusedCalls() {
        Due.says("Terms", "what is refused changes nothing");
        for (int r : new int[] {MIN, -1, 12, MAX}) {
            refused("row " + r, BAD, x -> x.row(r, 0, 1));
            refused("lane of row " + r, BAD, x -> x.row(0, r < 0 ? r : r - 4, 1));
            refused("miss " + r, BAD, x -> x.miss(r));
            refused("share " + r, BAD, x -> x.share(r, 0));
            refused("share with " + r, BAD, x -> x.share(0, r));
            refused("put " + r, BAD, x -> x.put(r, 0, 9));
            refused("thing " + r, BAD, x -> x.thing(r < 0 ? r : r - 6));
            refused("routine " + r, BAD, x -> x.routine(r < 0 ? r + 1 : r - 5));
            refused("op " + r, BAD, x -> x.op(r, 0, 0, 0));
            refused("op 30 " + r, BAD, x -> x.op(1, r < 0 ? r : 30, 0, 0));
            refused("local " + r, BAD, x -> x.op(1, 2, r < 0 ? r : 2, 0));
            refused("guard " + r, BAD, x -> x.guard(r, 0, 1, 0, 0));
            refused("guard of 1 " + r, BAD, x -> x.guard(1, r, 1, 0, 0));
            refused("guard of 1, code " + r, BAD, x -> x.guard(1, 0, 1, r < 0 ? r : 13, 0));
            refused("guard of 1, handler " + r, BAD, x -> x.guard(1, 0, 1, 0, r < 0 ? r : 30));
            refused("last " + r, BAD, x -> x.last(r, 0));
            refused("run " + r, BAD, x -> x.run(r, 3, 4));
        }
        refused("row, size", -15, x -> x.row(0, 1, -1));
        refused("row, argument", -17, x -> x.row(0, 1, 13));
        refused("put, nothing", -11, x -> x.put(5, 0, 9));
        refused("put, index below", -12, x -> x.put(0, -1, 9));
        refused("put, index above", -12, x -> x.put(0, 3, 9));
        refused("run without ops", BAD, x -> x.run(11, 3, 4));
        refused("thing, full", FULL, x -> x.thing(0));
        refused("routine, full", FULL, x -> x.routine(1));
        refused("op, full", FULL, x -> x.op(0, 26, 0, 0));
        refused("guard, full", FULL, x -> x.guard(0, 0, 1, 0, 0));
    }

    private static void refusedLasts() {
        Due.says("Terms", "what is refused changes nothing");
        StoryClasses x = new StoryClasses();
        x.routine(1);
        x.last(0, 7);
        Due.due("above", x.last(0, 30), BAD);
        Due.due("below", x.last(0, -2), BAD);
        Due.due("what was told", x.last(0, 8), 7);
    }

    /** A RUN of these OPS ends by that FAULT and leaves ROWS, THINGS and KEPT as they were. */
    private static void refusedOp(String ops, int code) {
        StoryClasses x = new StoryClasses();
        for (int t = 0; t < 6; t++) x.thing(t);
        x.row(0, 4, 3);
        x.put(0, 1, 11);
        x.share(2, 0);
        int keep = Due.tell(x, 1, "27; 27; 27; 20");
        x.run(keep, 0, 0);
        String before = Seen.world(x);
        int routine = Due.tell(x, 1, ops);
        Due.due(ops + ": run", x.run(routine, 0, 0), 1);
        Due.due(ops + ": code", x.told(0), code);
        Due.holds(ops + " changes nothing", Seen.world(x).equals(before));
    }

    private static void refusedOps() {
        Due.says("Terms", "what is refused changes nothing");
        refusedOp("13 0 4", 8);
        refusedOp("0 1; 13 0 4", 8);
        refusedOp("0 0; 0 9; 13 1 4", 1);
        refusedOp("0 0; 0 9; 13 0 5", 3);
        refusedOp("0 3; 0 9; 13 0 4", 2);
        refusedOp("0 -1; 15 0 4", 5);
        refusedOp("0 13; 15 0 4", 7);
        refusedOp("0 0; 0 9; 18 1 4", 1);
        refusedOp("0 3; 0 9; 18 0 4", 2);
        refusedOp("0 0; 0 9; 18 0 5", 7);
        refusedOp("0 1; 0 10; 23 1", 11);
        refusedOp("0 0; 0 9; 23 7", 3);
        refusedOp("0 1; 0 9; 23 8", 3);
        refusedOp("0 6; 0 9; 23 6", 1);
        refusedOp("0 6; 0 0; 0 0; 24", 1);
        refusedOp("0 0; 0 0; 0 6; 24", 1);
        refusedOp("0 0; 0 4; 0 0; 24", 2);
        refusedOp("0 1; 0 0; 0 0; 24", 4);
        refusedOp("27", 7);
    }

    private static void wraps(int op, long a, long b, long want) {
        StoryClasses x = new StoryClasses();
        Due.tell(x, 2, "1 0; 1 1; " + op + "; 26; 0; 20");
        Due.due("run", x.run(0, a, b), 0);
        Due.due(a + " and " + b + " by op " + op, x.output(0), want);
    }

    private static void wrapping() {
        Due.says("Terms", "Numbers of stories are longs, wrapping.");
        wraps(3, MOST, 1, LEAST);
        wraps(3, LEAST, -1, MOST);
        wraps(3, Integer.MAX_VALUE, 1, 1L << 31);
        wraps(4, LEAST, 1, MOST);
        wraps(4, MOST, -1, LEAST);
        wraps(4, 0, LEAST, LEAST);
        wraps(5, MOST, 2, -2);
        wraps(5, LEAST, -1, LEAST);
        wraps(5, 1L << 32, 1L << 32, 0);
        wraps(6, LEAST, -1, LEAST);
        wraps(7, LEAST, -1, 0);
    }

    private static void numbered() {
        Due.says("Terms", "What is made is numbered from 0 on, as it comes.");
        StoryClasses x = new StoryClasses();
        for (int k = 0; k < 12; k++) {
            Due.due("thing", x.thing(5 - k % 6), k);
            Due.due("a refused thing", x.thing(-1), BAD);
            Due.due("routine", x.routine(6 - k % 6), k);
            Due.due("a refused routine", x.routine(0), BAD);
        }
        for (int k = 0; k < 30; k++) {
            Due.due("op", x.op(3, 29 - k, 0, 0), k);
            Due.due("a refused op", x.op(3, 30, 0, 0), BAD);
        }
        Due.due("op of another routine", x.op(4, 0, 0, 0), 0);
        for (int k = 0; k < 4; k++) {
            Due.due("guard", x.guard(11, k, k + 1, 0, 0), k);
            Due.due("a refused guard", x.guard(11, k, k, 0, 0), BAD);
        }
        Due.due("guard of another routine", x.guard(10, 0, 1, 0, 0), 0);
    }

    /** No number makes a call throw. What is answered is looked at elsewhere. */
    private static void anyNumbers() {
        Due.says("LANGUAGE.md 7", "No call may ever throw or fail to end");
        for (int a : EXTREMES) {
            for (int b : EXTREMES) anyNumbers(rich(), a, b);
            for (int b : EXTREMES) anyNumbers(new StoryClasses(), a, b);
        }
        Due.holds("none threw", true);
    }

    private static void anyNumbers(StoryClasses x, int a, int b) {
        x.item(a, b);
        x.about(a, b);
        x.of(a, b);
        x.told(a);
        x.output(a);
        x.count(a, b);
        x.put(a, b, MOST);
        x.share(a, b);
        x.row(a, b, 12);
        x.row(0, a, b);
        x.miss(a);
        x.thing(a);
        x.routine(a);
        for (int op : EXTREMES) x.op(a, op, b, a);
        for (int op = 0; op < 30; op++) x.op(0, op, a, b);
        x.guard(a, b, a, b, a);
        x.guard(0, a, b, 0, 0);
        x.guard(0, 0, 30, a, b);
        x.last(a, b);
        x.last(0, a);
        x.run(a, b, a);
        x.run(0, a, b);
        x.forget();
    }

    private static void manyCalls() {
        Due.says("What it is", "An object is used for at most 512 calls after it has been made");
        StoryClasses x = new StoryClasses();
        Due.due("routine", x.routine(1), 0);
        Due.due("op", x.op(0, 1, 0, 0), 0);
        Due.due("op", x.op(0, 20, 0, 0), 1);
        Due.due("row", x.row(0, 5, 1), 1);
        for (int k = 0; k < 127; k++) {
            Due.due("run", x.run(0, k, 0), 0);
            Due.due("result", x.result(), k);
            Due.due("put", x.put(0, 0, -k), 1);
            Due.due("item", x.item(0, 0), -k);
        }
        Due.says("What it is", "what later calls answer is free");
        for (int k = 0; k < 2000; k++) anyNumbers(x, k % 13, k % 31);
        Due.holds("none threw", true);
    }
}
