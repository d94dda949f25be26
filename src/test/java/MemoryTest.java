/** Promises 1 to 7: a new object, row, miss, share, put, item, about. */
final class MemoryTest {
    private static final int BAD = StoryClasses.BAD, NONE = StoryClasses.NONE;
    private static final int MAX = Integer.MAX_VALUE, MIN = Integer.MIN_VALUE;
    private static final int[] NO_ROWS = {MIN, -1, 12, MAX};

    private MemoryTest() { }

    public static void main(String[] args) {
        newMemory();
        newStory();
        row();
        rowRefuses();
        miss();
        share();
        put();
        putRefuses();
        item();
        about();
        Due.end();
    }

    private static void newMemory() {
        Due.says("Promise 1", "All ROWS are MISSING;");
        StoryClasses x = new StoryClasses();
        for (int r = 0; r < 12; r++) {
            Due.due("about 0", x.about(r, 0), NONE);
            Due.due("about 1", x.about(r, 1), NONE);
            Due.due("about 2", x.about(r, 2), 0);
            Due.due("item", x.item(r, 0), 0);
            Due.due("put", x.put(r, 0, 1), -11);
            Due.due("miss", x.miss(r), 0);
        }
    }

    private static void newStory() {
        Due.says("Promise 1", "no THINGS, no ROUTINES, nothing KEPT, no RUN.");
        StoryClasses x = new StoryClasses();
        for (int what = 0; what < 4; what++) Due.due("count " + what, x.count(what, 0), 0);
        for (int what = 4; what < 7; what++) Due.due("count " + what, x.count(what, 0), BAD);
        for (int what = 0; what < 9; what++) Due.due("of " + what, x.of(0, what), 0);
        Due.due("forget", x.forget(), 0);
        Due.due("run", x.run(0, 0, 0), BAD);
        Due.due("op", x.op(0, 0, 0, 0), BAD);
        Due.due("guard", x.guard(0, 0, 1, 0, 0), BAD);
        Due.due("last", x.last(0, 0), BAD);
        Due.due("result", x.result(), 0);
        Due.due("number", x.number(), 0);
        Due.due("output", x.output(0), 0);
        Due.told("no run", x, 0, NONE, NONE, 0, 0, 0, 0, 0);
        // One object has nothing of another.
        StoryClasses y = new StoryClasses();
        y.row(0, 4, 4);
        y.thing(0);
        Due.gives(y, "27; 26; 0 1; 20", 1);
        String before = Seen.all(x);
        Due.holds("not of another object", before.equals(Seen.all(new StoryClasses())));
    }

    private static void row() {
        Due.says("Promise 2", "ROW r becomes a new one: n.");
        StoryClasses x = new StoryClasses();
        Due.due("no items", x.row(0, 0, 0), 0);
        Due.due("it is not missing", x.about(0, 0), 0);
        Due.due("twelve items", x.row(11, 7, 12), 12);
        Due.due("its lane", x.about(11, 1), 7);
        for (int i = 0; i < 12; i++) Due.due("0", x.item(11, i), 0);
        for (int i = 0; i < 12; i++) x.put(11, i, 9);
        x.share(3, 11);
        Due.due("in the place of another", x.row(11, 5, 12), 12);
        for (int i = 0; i < 12; i++) Due.due("0 again", x.item(11, i), 0);
        for (int i = 0; i < 12; i++) Due.due("the other place stays", x.item(3, i), 9);
        for (int i = 0; i < 12; i++) x.put(11, i, 8);
        Due.due("fewer", x.row(11, 5, 1), 1);
        Due.due("0 again", x.item(11, 0), 0);
        Due.due("more", x.row(11, 5, 12), 12);
        for (int i = 0; i < 12; i++) Due.due("0 again", x.item(11, i), 0);
        eachItsOwn();
    }

    /** All twelve are there, and each becomes a new one: the others stay. */
    private static void eachItsOwn() {
        for (int r = 0; r < 12; r++) {
            StoryClasses x = new StoryClasses();
            for (int k = 0; k < 12; k++) {
                x.row(k, 5, 12);
                x.put(k, 11, 100 + k);
            }
            Due.due("row", x.row(r, 1, 12), 12);
            for (int k = 0; k < 12; k++) {
                Due.due("row " + k, x.item(k, 11), k == r ? 0 : 100 + k);
                Due.due("lane of " + k, x.about(k, 1), k == r ? 1 : 5);
            }
        }
    }

    private static void rowRefuses() {
        Due.says("Promise 2", "BAD (r, LANE);");
        StoryClasses x = new StoryClasses();
        x.row(11, 7, 4);
        x.put(11, 3, 9);
        for (int r : NO_ROWS) {
            for (int n : new int[] {-1, 0, 12, 13}) Due.due("row " + r, x.row(r, 4, n), BAD);
        }
        for (int lane : new int[] {MIN, -1, 8, MAX}) {
            for (int n : new int[] {-1, 0, 12, 13}) {
                Due.due("lane " + lane, x.row(11, lane, n), BAD);
            }
        }
        Due.says("Promise 2", "-10 less the FAULT: SIZE, ARGUMENT (as of 15).");
        for (int lane = 0; lane < 8; lane++) {
            Due.due("-1", x.row(11, lane, -1), -15);
            Due.due("the least", x.row(11, lane, MIN), -15);
            Due.due("13", x.row(11, lane, 13), -17);
            Due.due("the most", x.row(11, lane, MAX), -17);
        }
        Due.due("as it was", x.about(11, 1), 7);
        Due.due("as it was", x.item(11, 3), 9);
        Due.due("a missing one", x.row(2, 0, 13), -17);
        Due.due("a missing one", x.about(2, 0), NONE);
    }

    private static void miss() {
        Due.says("Promise 3", "ROW r is MISSING then: 1;");
        StoryClasses x = new StoryClasses();
        for (int r = 0; r < 12; r += 11) {
            x.row(r, 1, r);
            Due.due("miss", x.miss(r), 1);
            Due.due("missing", x.about(r, 0), NONE);
            Due.due("missing", x.put(r, 0, 1), -11);
        }
        x.row(3, 1, 2);
        x.share(4, 3);
        Due.due("in one place", x.miss(3), 1);
        Due.due("the other stays", x.about(4, 0), 2);
        Due.says("Promise 3", "0: it was.");
        Due.due("it was", x.miss(3), 0);
        Due.due("it was at first", x.miss(9), 0);
        Due.due("missing still", x.about(9, 0), NONE);
        Due.says("Promise 3", "BAD.");
        for (int r : NO_ROWS) Due.due("row " + r, x.miss(r), BAD);
    }

    private static void share() {
        Due.says("Promise 4", "ROW r becomes ROW s (the same one): 1;");
        StoryClasses x = new StoryClasses();
        x.row(0, 4, 3);
        Due.due("share", x.share(11, 0), 1);
        x.put(11, 2, 42);
        Due.due("the same one", x.item(0, 2), 42);
        x.put(0, 1, 43);
        Due.due("the same one", x.item(11, 1), 43);
        x.row(5, 4, 3);
        Due.due("one like it is not it", x.share(5, 0), 1);
        Due.due("a missing one", x.share(5, 9), 1);
        Due.due("is missing then", x.about(5, 0), NONE);
        Due.due("the other is not", x.about(0, 0), 3);
        Due.says("Promise 4", "0: it was.");
        Due.due("it was", x.share(11, 0), 0);
        Due.due("the other way", x.share(0, 11), 0);
        Due.due("itself", x.share(0, 0), 0);
        Due.due("both are missing", x.share(8, 9), 0);
        Due.due("itself, missing", x.share(9, 9), 0);
        Due.due("as it was", x.item(0, 2), 42);
        Due.says("Promise 4", "BAD.");
        for (int r : NO_ROWS) {
            Due.due("row " + r, x.share(r, 0), BAD);
            Due.due("with row " + r, x.share(0, r), BAD);
            Due.due("both " + r, x.share(r, r), BAD);
        }
    }

    private static void put() {
        Due.says("Promise 5", "ITEM i of ROW r becomes v: 1.");
        StoryClasses x = new StoryClasses();
        x.row(11, 5, 12);
        for (int i = 0; i < 12; i++) Due.due("put", x.put(11, i, Long.MAX_VALUE - i), 1);
        for (int i = 0; i < 12; i++) Due.due("item", x.item(11, i), Long.MAX_VALUE - i);
        Due.due("the same again", x.put(11, 0, Long.MAX_VALUE), 1);
        x.row(0, 1, 1);
        Due.due("as a byte", x.put(0, 0, 300), 1);
        Due.due("as a byte", x.item(0, 0), 44);
        x.row(0, 0, 1);
        Due.due("as a truth", x.put(0, 0, -7), 1);
        Due.due("as a truth", x.item(0, 0), 1);
    }

    private static void putRefuses() {
        Due.says("Promise 5", "BAD;");
        StoryClasses x = new StoryClasses();
        x.row(0, 5, 2);
        x.row(1, 5, 0);
        for (int r : NO_ROWS) {
            Due.due("row " + r, x.put(r, 0, 1), BAD);
            Due.due("row " + r, x.put(r, -1, 1), BAD);
        }
        Due.says("Promise 5", "-10 less the FAULT: NOTHING, INDEX.");
        for (int i : new int[] {MIN, -1, 0, 12, MAX}) Due.due("missing", x.put(2, i, 1), -11);
        for (int i : new int[] {MIN, -1, 2, 12, MAX}) Due.due("item " + i, x.put(0, i, 1), -12);
        for (int i : new int[] {-1, 0, 1}) Due.due("no items", x.put(1, i, 1), -12);
        for (int i = 0; i < 2; i++) Due.due("as it was", x.item(0, i), 0);
    }

    private static void item() {
        Due.says("Promise 6", "ITEM i of ROW r as a number.");
        StoryClasses x = new StoryClasses();
        x.row(0, 5, 2);
        x.put(0, 0, Long.MIN_VALUE);
        x.put(0, 1, Long.MAX_VALUE);
        Due.due("the first", x.item(0, 0), Long.MIN_VALUE);
        Due.due("the last", x.item(0, 1), Long.MAX_VALUE);
        x.row(11, 6, 12);
        x.put(11, 11, 16777217);
        Due.due("a float", x.item(11, 11), 16777216);
        x.row(3, 0, 1);
        x.put(3, 0, 5);
        Due.due("a truth", x.item(3, 0), 1);
        Due.says("Promise 6", "0: there is none such.");
        for (int i : new int[] {MIN, -1, 2, 11, 12, MAX}) Due.due("item " + i, x.item(0, i), 0);
        for (int r : NO_ROWS) Due.due("row " + r, x.item(r, 0), 0);
        Due.due("missing", x.item(1, 0), 0);
        x.row(0, 5, 1);
        Due.due("behind a shorter one", x.item(0, 1), 0);
    }

    private static void about() {
        Due.says("Promise 7", "What = 0 how many ITEMS ROW r has, 1 its LANE");
        StoryClasses x = new StoryClasses();
        for (int lane = 0; lane < 8; lane++) {
            x.row(lane, lane, 12 - lane);
            Due.due("items", x.about(lane, 0), 12 - lane);
            Due.due("lane", x.about(lane, 1), lane);
        }
        x.row(11, 0, 0);
        Due.due("no items", x.about(11, 0), 0);
        Due.due("truths", x.about(11, 1), 0);
        Due.says("Promise 7", "(both NONE: it is MISSING),");
        Due.due("items", x.about(10, 0), NONE);
        Due.due("lane", x.about(10, 1), NONE);
        x.miss(0);
        Due.due("items", x.about(0, 0), NONE);
        Due.due("lane", x.about(0, 1), NONE);
        Due.says("Promise 7", "2 the least ROW that is the same one (or MISSING, too).");
        Due.due("missing, the least", x.about(0, 2), 0);
        Due.due("missing, too", x.about(10, 2), 0);
        x.row(0, 5, 5);
        Due.due("missing, the least", x.about(8, 2), 8);
        Due.due("missing, too", x.about(10, 2), 8);
        Due.due("itself", x.about(11, 2), 11);
        x.share(11, 4);
        x.share(9, 4);
        Due.due("the least", x.about(4, 2), 4);
        Due.due("the same one", x.about(9, 2), 4);
        Due.due("the same one", x.about(11, 2), 4);
        x.row(1, 4, 8);
        x.row(2, 4, 8);
        Due.due("one like it is another", x.about(2, 2), 2);
        x.share(1, 4);
        Due.due("a lesser one", x.about(11, 2), 1);
        Due.says("Promise 7", "BAD.");
        for (int what : new int[] {MIN, -1, 3, MAX}) {
            Due.due("what " + what, x.about(4, what), BAD);
            Due.due("what " + what + " of a missing one", x.about(10, what), BAD);
        }
        for (int r : NO_ROWS) {
            for (int what = 0; what < 3; what++) Due.due("row " + r, x.about(r, what), BAD);
        }
    }
}
