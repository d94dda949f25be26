/** What each OP takes, refuses, does and lays (terms 1 and 3), as promises 11 and 14 have it. */
final class OpTest {
    private static final int NOTHING = 1, INDEX = 2, CAST = 3, SIZE = 5, ZERO = 6, ARGUMENT = 7,
        PILE = 8, BEHIND = 10, OWN = 11;

    private OpTest() { }

    public static void main(String[] args) {
        numbers();
        places();
        tooFew();
        tooMany();
        heldItems();
        sizesAndSharing();
        askedItems();
        putItems();
        calls();
        outputs();
        Due.end();
    }

    private static void two(int op, long a, long b, long want) {
        StoryClasses x = new StoryClasses();
        int routine = Due.tell(x, 2, 1, 0, 0, 1, 1, 0, op, 0, 0, 20, 0, 0);
        Due.due("op " + op + ": run", x.run(routine, a, b), 0);
        Due.due("op " + op + " of " + a + ", " + b, x.result(), want);
    }

    private static void numbers() {
        long most = Long.MAX_VALUE, least = Long.MIN_VALUE;
        two(3, 5, 3, 8);
        two(3, most, 1, least);
        two(4, 5, 3, 2);
        two(4, least, 1, most);
        two(5, 5, 3, 15);
        two(5, most, 2, -2);
        two(6, 7, 2, 3);
        two(6, -7, 2, -3);
        two(6, least, -1, least);
        two(7, 7, 4, 3);
        two(7, -7, 4, -3);
        two(7, least, -1, 0);
        two(8, 1, 2, 1);
        two(8, 2, 2, 0);
        two(8, least, most, 1);
        two(9, 2, 2, 1);
        two(9, 2, 1L << 33, 0);
        for (int op = 6; op < 8; op++) {
            StoryClasses x = new StoryClasses();
            Due.faults("by zero", x, Due.tell(x, 1, 0, 5, 0, 0, 0, 0, op, 0, 0, 20, 0, 0), ZERO, 2);
        }
        StoryClasses x = new StoryClasses();
        Due.gives("lays a", x, Due.tell(x, 1, 0, Integer.MIN_VALUE, 0, 20, 0, 0), Integer.MIN_VALUE);
        Due.gives("a local", x, Due.tell(x, 6, 0, 4, 0, 2, 5, 0, 1, 5, 0, 20, 0, 0), 4);
        Due.gives("a local is 0", x, Due.tell(x, 6, 1, 2, 0, 20, 0, 0), 0);
    }

    private static void places() {
        StoryClasses x = new StoryClasses();
        Due.gives("goes", x, Due.tell(x, 1, 10, 3, 0, 0, 1, 0, 20, 0, 0, 0, 2, 0, 20, 0, 0), 2);
        int choice = Due.tell(x, 1, 1, 0, 0, 11, 4, 0, 0, 1, 0, 20, 0, 0, 0, 2, 0, 20, 0, 0);
        x.run(choice, 0, 0);
        Due.due("goes if it is 0", x.result(), 2);
        x.run(choice, 1L << 32, 0);
        Due.due("goes on if it is not", x.result(), 1);
        Due.faults("behind the last", x, Due.tell(x, 1, 0, 1, 0), BEHIND, 0);
        Due.faults("goes behind", x, Due.tell(x, 1, 0, 1, 0, 10, 2, 0), BEHIND, 1);
        int behind = Due.tell(x, 1, 0, 1, 0, 1, 0, 0, 11, 29, 0);
        Due.faults("goes behind if 0", x, behind, BEHIND, 2);
        Due.faults("what went stays", x, Due.tell(x, 1, 0, 5, 0, 26, 0, 0), BEHIND, 1);
        Due.due("it stays", x.output(0), 5);
        Due.faults("leaves before last", x, Due.tell(x, 1, 22, 0, 0), BEHIND, 0);
        int thrower = Due.tell(x, 1, 0, 77, 0, 21, 0, 0);
        Due.faults("throws", x, thrower, OWN, 1);
        Due.due("what was thrown", x.number(), 77);
    }

    private static void tooFew() {
        int[] takes = {0, 0, 1, 2, 2, 2, 2, 2, 2, 2, 0, 1, 1, 2, 0, 1, 0, 1, 2, 3, 1, 1, 0, 2, 3, 2,
            1, 0, 0, 0};
        for (int op = 0; op < 30; op++) {
            for (int laid = 0; laid < takes[op]; laid++) {
                StoryClasses x = new StoryClasses();
                int routine = x.routine(1);
                for (int k = 0; k < laid; k++) x.op(routine, 0, 0, 0);
                x.op(routine, op, op == 23 ? 6 : 0, 3);
                Due.faults("too few for " + op, x, routine, PILE, laid);
            }
        }
        StoryClasses x = new StoryClasses();
        Due.faults("a message without n", x, Due.tell(x, 1, 23, 4, 0), PILE, 0);
        Due.faults("one is enough", x, Due.tell(x, 1, 0, 0, 0, 23, 4, 0), NOTHING, 1);
    }

    /** A ROUTINE that lays eight numbers. */
    private static int eight(StoryClasses x) {
        int routine = x.routine(1);
        for (int k = 0; k < 8; k++) x.op(routine, 0, k, 0);
        return routine;
    }

    private static void tooMany() {
        StoryClasses x = new StoryClasses();
        x.row(0, 4, 2);
        int[][] laying = {{0, 0, 0}, {1, 0, 0}, {14, 0, 0}, {27, 0, 0}, {28, 0, 0}, {19, 11, 0}};
        for (int[] op : laying) {
            int routine = eight(x);
            x.op(routine, op[0], op[1], op[2]);
            Due.faults("there are eight: " + op[0], x, routine, PILE, 8);
            Due.due("what it did stays: " + op[0], x.count(2, 0), op[0] == 27 ? 1 : 0);
        }
        int missing = eight(x);
        x.op(missing, 14, 1, 0);
        Due.faults("its own fault comes first", x, missing, NOTHING, 8);
        int sum = eight(x);
        for (int k = 0; k < 7; k++) x.op(sum, 3, 0, 0);
        x.op(sum, 20, 0, 0);
        Due.gives("eight are fine", x, sum, 28);
    }

    private static void heldItems() {
        StoryClasses x = new StoryClasses();
        x.row(0, 1, 2);
        x.row(1, 6, 1);
        Due.gives("writes and reads", x,
            Due.tell(x, 1, 0, 1, 0, 0, 200, 0, 13, 0, 1, 0, 1, 0, 12, 0, 1, 20, 0, 0), -56);
        Due.gives("floats", x, Due.tell(x, 1, 0, 0, 0, 0, 16777217, 0, 13, 1, 6, 0, 0, 0, 12, 1, 6,
            20, 0, 0), 16777216);
        Due.faults("missing", x, Due.tell(x, 1, 0, -1, 0, 12, 2, 1), NOTHING, 1);
        Due.faults("another lane", x, Due.tell(x, 1, 0, -1, 0, 12, 0, 2), CAST, 1);
        Due.faults("index above", x, Due.tell(x, 1, 0, 2, 0, 12, 0, 1), INDEX, 1);
        Due.faults("index below", x, Due.tell(x, 1, 0, -1, 0, 12, 0, 1), INDEX, 1);
        Due.faults("missing", x, Due.tell(x, 1, 0, -1, 0, 0, 1, 0, 13, 2, 1), NOTHING, 2);
        Due.faults("another lane", x, Due.tell(x, 1, 0, -1, 0, 0, 1, 0, 13, 0, 0), CAST, 2);
        Due.faults("index", x, Due.tell(x, 1, 0, 2, 0, 0, 1, 0, 13, 0, 1), INDEX, 2);
        int far = Due.tell(x, 1, 1, 0, 0, 12, 0, 1);
        x.run(far, 1L << 32, 0);
        Due.due("an index is a long", x.told(0), INDEX);
        Due.due("nothing was changed", x.item(0, 0), 0);
    }

    private static void sizesAndSharing() {
        StoryClasses x = new StoryClasses();
        x.row(0, 4, 5);
        Due.gives("length", x, Due.tell(x, 1, 14, 0, 0, 20, 0, 0), 5);
        Due.faults("length of none", x, Due.tell(x, 1, 14, 1, 0, 20, 0, 0), NOTHING, 0);
        Due.faults("below", x, Due.tell(x, 1, 0, -1, 0, 15, 0, 2), SIZE, 1);
        Due.faults("above", x, Due.tell(x, 1, 0, 13, 0, 15, 0, 2), ARGUMENT, 1);
        Due.due("as it was", x.about(0, 1), 4);
        int grow = Due.tell(x, 1, 1, 0, 0, 15, 0, 2, 14, 0, 0, 20, 0, 0);
        x.run(grow, 1L << 32, 0);
        Due.due("a size is a long", x.told(0), ARGUMENT);
        x.run(grow, 12, 0);
        Due.due("twelve", x.result(), 12);
        Due.due("the new lane", x.about(0, 1), 2);
        x.put(0, 3, 8);
        Due.gives("shares", x, Due.tell(x, 1, 29, 4, 0, 0, 3, 0, 12, 4, 2, 20, 0, 0), 8);
        Due.due("the same", x.about(4, 2), 0);
        Due.gives("drops", x, Due.tell(x, 1, 16, 0, 0, 16, 0, 0, 0, 1, 0, 20, 0, 0), 1);
        Due.due("it is missing", x.about(0, 0), StoryClasses.NONE);
        Due.due("the other stays", x.item(4, 3), 8);
        Due.gives("shares nothing", x, Due.tell(x, 1, 29, 4, 0, 0, 1, 0, 20, 0, 0), 1);
        Due.due("missing, too", x.about(4, 0), StoryClasses.NONE);
    }

    /** Whether LANE from goes INTO LANE to, or is it, as the document's list has it. */
    private static boolean suits(int from, int to) {
        String[] into = {"0", "124567", "24567", "34567", "4567", "567", "67", "7"};
        return into[from].indexOf('0' + to) >= 0;
    }

    private static void askedItems() {
        long v = (1L << 40) + 16777217L;
        for (int lane = 0; lane < 8; lane++) {
            StoryClasses x = new StoryClasses();
            x.row(0, lane, 1);
            x.put(0, 0, v);
            for (int b = 0; b < 8; b++) {
                int routine = Due.tell(x, 1, 0, 0, 0, 17, 0, b, 20, 0, 0);
                String call = "lane " + lane + " asked as " + b;
                if (suits(lane, b)) Due.gives(call, x, routine, as(b, as(lane, v)));
                else Due.faults(call, x, routine, ARGUMENT, 1);
            }
            Due.faults("index first", x, Due.tell(x, 1, 0, 1, 0, 17, 0, 7 - lane), INDEX, 1);
            Due.faults("nothing first", x, Due.tell(x, 1, 0, 1, 0, 17, 1, 7 - lane), NOTHING, 1);
        }
    }

    private static void putItems() {
        long v = (1L << 40) + 16777217L;
        for (int lane = 0; lane < 8; lane++) {
            StoryClasses x = new StoryClasses();
            x.row(0, lane, 1);
            for (int b = 0; b < 8; b++) {
                x.put(0, 0, 0);
                int routine = Due.tell(x, 1, 0, 0, 0, 1, 0, 0, 18, 0, b, 0, 0, 0, 20, 0, 0);
                String call = "into lane " + lane + " as " + b;
                x.run(routine, v, 0);
                Due.due(call, x.told(0), suits(b, lane) ? 0 : ARGUMENT);
                Due.due(call, x.item(0, 0), suits(b, lane) ? as(lane, as(b, v)) : 0);
            }
            int wrong = Due.tell(x, 1, 0, 1, 0, 0, 1, 0, 18, 0, 7 - lane);
            Due.faults("index first", x, wrong, INDEX, 2);
            Due.faults("nothing first", x, Due.tell(x, 1, 0, 1, 0, 0, 1, 0, 18, 1, 0), NOTHING, 2);
        }
    }

    private static long as(int lane, long v) {
        switch (lane) {
            case 0: return Math.floorMod(v, 2L);
            case 1: return (byte) v;
            case 2: return (short) v;
            case 3: return v & 65535;
            case 4: return (int) v;
            case 6: return (long) (float) v;
            case 7: return (long) (double) v;
            default: return v;
        }
    }

    private static void calls() {
        StoryClasses x = new StoryClasses();
        int less = Due.tell(x, 3, 1, 0, 0, 1, 1, 0, 4, 0, 0, 1, 2, 0, 3, 0, 0, 20, 0, 0);
        Due.gives("the first laid is local 0", x,
            Due.tell(x, 1, 0, 9, 0, 0, 50, 0, 0, 8, 0, 19, less, 2, 3, 0, 0, 20, 0, 0), 51);
        Due.gives("three", x, Due.tell(x, 1, 0, 50, 0, 0, 8, 0, 0, 1000, 0, 19, less, 3, 20, 0, 0),
            1042);
        Due.gives("others are 0", x, Due.tell(x, 1, 19, less, 0, 20, 0, 0), 0);
        Due.faults("too many", x,
            Due.tell(x, 1, 0, 1, 0, 0, 1, 0, 0, 1, 0, 0, 1, 0, 19, less, 4), ARGUMENT, 4);
        Due.faults("no such routine", x, Due.tell(x, 1, 19, 11, 0), NOTHING, 0);
        int empty = x.routine(1);
        Due.faults("no ops, before too many", x,
            Due.tell(x, 1, 0, 1, 0, 0, 1, 0, 19, empty, 2), NOTHING, 2);
        Due.faults("too few before nothing", x, Due.tell(x, 1, 19, empty, 1), PILE, 0);
        Due.faults("behind a call", x, Due.tell(x, 1, 19, less, 0), BEHIND, 0);
        StoryClasses y = new StoryClasses();
        int seven = Due.tell(y, 1, 0, 7, 0, 20, 0, 0);
        int full = y.routine(1);
        for (int k = 0; k < 8; k++) y.op(full, 0, k, 0);
        Due.more(y, full, 19, seven, 1, 20, 0, 0);
        Due.gives("eight, one of them taken", y, full, 7);
    }

    private static void outputs() {
        StoryClasses x = new StoryClasses();
        int loop = Due.tell(x, 1, 1, 0, 0, 26, 0, 0, 1, 0, 0, 0, 1, 0, 3, 0, 0, 2, 0, 0, 10, 0, 0);
        Due.due("spent", x.run(loop, 100, 0), 2);
        Due.due("some", x.count(3, 0), 43);
        Due.due("the last", x.output(42), 142);
        Due.due("none such", x.output(43), 0);
        Due.due("none such", x.output(-1), 0);
        int fast = Due.tell(x, 1, 1, 0, 0, 26, 0, 0, 10, 0, 0);
        x.run(fast, 5, 0);
        Due.due("others are lost", x.count(3, 0), 60);
        Due.due("the last", x.output(59), 5);
        Due.due("none such", x.output(60), 0);
        Due.due("a refused run", x.run(9, 0, 0), StoryClasses.BAD);
        Due.due("leaves it", x.count(3, 0), 60);
        x.run(Due.tell(x, 1, 0, 0, 0, 20, 0, 0), 0, 0);
        Due.due("empty as it begins", x.count(3, 0), 0);
        Due.due("empty as it begins", x.output(0), 0);
    }
}
