/** Terms 3, OPS 12 to 18 and 29: those over ROWS. */
final class RowOpTermsTest {
    private static final int NONE = StoryClasses.NONE;
    private static final int NOTHING = 1, INDEX = 2, CAST = 3, SIZE = 5, ARGUMENT = 7;
    private static final long MOST = Long.MAX_VALUE, LEAST = Long.MIN_VALUE;

    private RowOpTermsTest() { }

    public static void main(String[] args) {
        reads();
        writes();
        lengths();
        renews();
        drops();
        joins();
        asks();
        askRefuses();
        puts();
        putRefuses();
        into();
        Due.end();
    }

    /** ROW 0 of a LANE with three ITEMS, 1 of them with no ITEMS, ROW 2 MISSING. */
    private static StoryClasses rows(int lane) {
        StoryClasses x = new StoryClasses();
        x.row(0, lane, 3);
        x.row(1, lane, 0);
        return x;
    }

    /** Runs OPS with LOCALS 0 and 1: the CODE of the FAULT, 0 if none came. */
    private static int code(StoryClasses x, String ops, long first, long second) {
        x.run(Due.tell(x, 2, ops), first, second);
        return x.told(0);
    }

    private static void reads() {
        Due.says("Terms 3",
            "12 of i: lays ITEM i of ROW a, held as LANE b: NOTHING (it is MISSING), "
            + "CAST (it has another LANE), INDEX.");
        for (int lane = 0; lane < 8; lane++) {
            for (int b = 0; b < 8; b++) {
                StoryClasses x = rows(lane);
                for (int i = 0; i < 3; i++) x.put(0, i, i + 1);
                String read = "1 0; 12 0 " + b + "; 20";
                if (b != lane) {
                    Due.due("another lane", code(x, read, 0, 0), CAST);
                    Due.due("before INDEX", code(x, read, 3, 0), CAST);
                    Due.due("no items", code(x, "1 0; 12 1 " + b + "; 20", 0, 0), CAST);
                    continue;
                }
                for (int i = 0; i < 3; i++) {
                    Due.due("item", code(x, read, i, 0), 0);
                    Due.due("item", x.result(), lane == 0 ? (i + 1) % 2 : i + 1);
                }
                Due.due("above", code(x, read, 3, 0), INDEX);
                Due.due("below", code(x, read, -1, 0), INDEX);
                Due.due("far above", code(x, read, 1L << 32, 0), INDEX);
                Due.due("the most", code(x, read, MOST, 0), INDEX);
                Due.due("the least", code(x, read, LEAST, 0), INDEX);
                Due.due("no items", code(x, "1 0; 12 1 " + b + "; 20", 0, 0), INDEX);
            }
            StoryClasses y = rows(lane);
            Due.due("missing", code(y, "0 0; 12 2 " + lane, 0, 0), NOTHING);
            Due.due("before INDEX", code(y, "0 -1; 12 2 " + lane, 0, 0), NOTHING);
        }
    }

    private static void writes() {
        Due.says("Terms 3", "13 of i, x: the ITEM becomes x: likewise.");
        for (int lane = 0; lane < 8; lane++) {
            for (int b = 0; b < 8; b++) {
                StoryClasses x = rows(lane);
                String write = "1 0; 1 1; 13 0 " + b + "; 0 1; 20";
                if (b != lane) {
                    Due.due("another lane", code(x, write, 0, 1), CAST);
                    Due.due("before INDEX", code(x, write, -1, 1), CAST);
                    Due.due("as it was", x.item(0, 0), 0);
                    continue;
                }
                for (int i = 0; i < 3; i++) {
                    Due.due("item", code(x, write, i, 1), 0);
                    for (int k = 0; k < 3; k++) Due.due("item", x.item(0, k), k <= i ? 1 : 0);
                }
                Due.due("above", code(x, write, 3, 0), INDEX);
                Due.due("below", code(x, write, -1, 0), INDEX);
                Due.due("far above", code(x, write, (1L << 32) + 1, 0), INDEX);
                Due.due("the least", code(x, write, LEAST, 0), INDEX);
                Due.due("no items", code(x, "0 0; 0 1; 13 1 " + b, 0, 0), INDEX);
                for (int k = 0; k < 3; k++) Due.due("as it was", x.item(0, k), 1);
            }
            Due.due("missing", code(rows(lane), "0 9; 0 1; 13 2 " + lane, 0, 0), NOTHING);
        }
        StoryClasses y = rows(1);
        Due.due("as a byte", code(y, "0 2; 0 200; 13 0 1; 0 2; 12 0 1; 20", 0, 0), 0);
        Due.due("as a byte", y.result(), -56);
    }

    private static void lengths() {
        Due.says("Terms 3", "14 lays how many ITEMS ROW a has: NOTHING.");
        StoryClasses x = rows(6);
        x.row(11, 0, 12);
        Due.gives(x, "14 0; 20", 3);
        Due.gives(x, "14 1; 20", 0);
        Due.gives(x, "14 11; 20", 12);
        Due.faults(x, "14 2; 20", NOTHING, 0);
    }

    private static void renews() {
        Due.says("Terms 3",
            "15 of n: ROW a becomes a new one of LANE b with n ITEMS (0): SIZE (below 0), "
            + "ARGUMENT (above 12).");
        for (int lane = 0; lane < 8; lane++) {
            StoryClasses x = rows(5);
            x.share(3, 0);
            x.put(0, 2, 9);
            String renew = "1 0; 15 0 " + lane + "; 0 1; 20";
            Due.due("-1", code(x, renew, -1, 0), SIZE);
            Due.due("the least", code(x, renew, LEAST, 0), SIZE);
            Due.due("13", code(x, renew, 13, 0), ARGUMENT);
            Due.due("an int would be 0", code(x, renew, 1L << 32, 0), ARGUMENT);
            Due.due("an int would be below 0", code(x, renew, 1L << 31, 0), ARGUMENT);
            Due.due("an int would be above 12", code(x, renew, LEAST + 13, 0), SIZE);
            Due.due("the most", code(x, renew, MOST, 0), ARGUMENT);
            Due.due("as it was", x.about(0, 1), 5);
            Due.due("as it was", x.item(0, 2), 9);
            Due.due("as it was", x.about(3, 2), 0);
            Due.due("12", code(x, renew, 12, 0), 0);
            Due.due("12 items", x.about(0, 0), 12);
            Due.due("its lane", x.about(0, 1), lane);
            for (int i = 0; i < 12; i++) Due.due("0", x.item(0, i), 0);
            Due.due("the other place", x.item(3, 2), 9);
            Due.due("is another one", x.about(3, 2), 3);
            for (int i = 0; i < 12; i++) x.put(0, i, 7);
            Due.due("none", code(x, renew, 0, 0), 0);
            Due.due("none", x.about(0, 0), 0);
            Due.due("12 again", code(x, renew, 12, 0), 0);
            for (int i = 0; i < 12; i++) Due.due("0 again", x.item(0, i), 0);
            Due.due("one that was missing", code(x, "0 1; 15 2 " + lane + "; 0 1; 20", 0, 0), 0);
            Due.due("one that was missing", x.about(2, 0), 1);
        }
    }

    private static void drops() {
        Due.says("Terms 3", "16 ROW a is MISSING then.");
        StoryClasses x = rows(4);
        x.share(5, 0);
        Due.gives(x, "16 0; 0 1; 20", 1);
        Due.due("missing", x.about(0, 0), NONE);
        Due.due("the other place is not", x.about(5, 0), 3);
        Due.gives(x, "16 0; 0 1; 20", 1);
        Due.due("missing still", x.about(0, 0), NONE);
        Due.gives(x, "16 11; 16 1; 0 1; 20", 1);
        Due.due("one without items", x.about(1, 0), NONE);
    }

    private static void joins() {
        Due.says("Terms 3", "29 ROW a becomes ROW b (the same one).");
        StoryClasses x = rows(4);
        Due.gives(x, "29 11 0; 0 2; 0 7; 13 11 4; 0 2; 12 0 4; 20", 7);
        Due.due("the same one", x.about(11, 2), 0);
        Due.gives(x, "29 11 11; 0 1; 20", 1);
        Due.due("itself", x.item(11, 2), 7);
        Due.gives(x, "29 0 1; 0 1; 20", 1);
        Due.due("another one", x.about(0, 0), 0);
        Due.due("the first is where it was", x.item(11, 2), 7);
        Due.gives(x, "29 11 2; 0 1; 20", 1);
        Due.due("a missing one", x.about(11, 0), NONE);
    }

    /** What the document's list says, and each LANE itself. */
    private static boolean goes(int from, int to) {
        String[] into = {"0", "124567", "24567", "34567", "4567", "567", "67", "7"};
        return into[from].indexOf('0' + to) >= 0;
    }

    /** A number that has been something of a LANE. */
    private static long as(int lane, long v) {
        switch (lane) {
            case 0: return Math.floorMod(v, 2L);
            case 1: return Math.floorMod(v + 128, 256L) - 128;
            case 2: return Math.floorMod(v + 32768, 65536L) - 32768;
            case 3: return Math.floorMod(v, 65536L);
            case 4: return Math.floorMod(v + (1L << 31), 1L << 32) - (1L << 31);
            case 6: return (long) (float) v;
            case 7: return (long) (double) v;
            default: return v;
        }
    }

    private static final long[] VALUES = {0, 1, -1, 128, 32768, 65535, 16777217, (1L << 31) - 1,
        (1L << 53) + 1, (1L << 60) + (1L << 36) + 1, MOST, LEAST, LEAST + 1};

    private static void asks() {
        Due.says("Terms 3",
            "17 of i: lays ITEM i of ROW a, ASKED as LANE b (as something of LANE b, then "
            + "as a number):");
        for (int lane = 0; lane < 8; lane++) {
            for (int b = 0; b < 8; b++) {
                if (!goes(lane, b)) continue;
                StoryClasses x = rows(lane);
                Due.tell(x, 1, "0 2; 17 0 " + b + "; 20");
                for (long v : VALUES) {
                    x.put(0, 2, v);
                    String call = v + " in lane " + lane + " asked as " + b;
                    Due.gives(call, x, 0, as(b, as(lane, v)));
                    Due.due(call + ", as it was", x.item(0, 2), as(lane, v));
                }
            }
        }
    }

    private static void askRefuses() {
        Due.says("Terms 3",
            "NOTHING, INDEX, ARGUMENT, unless b is its LANE, or its LANE is 1 to 6 and "
            + "goes INTO b.");
        for (int lane = 0; lane < 8; lane++) {
            for (int b = 0; b < 8; b++) {
                StoryClasses x = rows(lane);
                String ask = "1 0; 17 0 " + b + "; 20";
                int fits = goes(lane, b) ? 0 : ARGUMENT;
                String call = "lane " + lane + " asked as " + b;
                Due.due(call, code(x, ask, 0, 0), fits);
                Due.due(call, code(x, ask, 2, 0), fits);
                Due.due(call + ", above", code(x, ask, 3, 0), INDEX);
                Due.due(call + ", below", code(x, ask, -1, 0), INDEX);
                Due.due(call + ", far above", code(x, ask, 1L << 32, 0), INDEX);
                Due.due(call + ", no items", code(x, "0 0; 17 1 " + b, 0, 0), INDEX);
                Due.due(call + ", missing", code(x, "0 -1; 17 2 " + b, 0, 0), NOTHING);
            }
        }
    }

    private static void puts() {
        Due.says("Terms 3",
            "18 of i, x: x as something of LANE b is PUT into the ITEM, as that number:");
        for (int lane = 0; lane < 8; lane++) {
            for (int b = 0; b < 8; b++) {
                if (!goes(b, lane)) continue;
                StoryClasses x = rows(lane);
                Due.tell(x, 1, "0 2; 1 0; 18 0 " + b + "; 0 0; 20");
                for (long v : VALUES) {
                    String call = v + " put as " + b + " into lane " + lane;
                    Due.due(call + ": run", x.run(0, v, 0), 0);
                    Due.due(call, x.item(0, 2), as(lane, as(b, v)));
                    Due.due(call + ", another item", x.item(0, 1), 0);
                }
            }
        }
    }

    private static void putRefuses() {
        Due.says("Terms 3", "NOTHING, INDEX, ARGUMENT, unless b is its LANE or goes INTO it.");
        for (int lane = 0; lane < 8; lane++) {
            for (int b = 0; b < 8; b++) {
                StoryClasses x = rows(lane);
                String put = "1 0; 1 1; 18 0 " + b + "; 0 1; 20";
                boolean fits = goes(b, lane);
                String call = "put as " + b + " into lane " + lane;
                Due.due(call, code(x, put, 2, 1), fits ? 0 : ARGUMENT);
                Due.due(call, x.item(0, 2), fits ? 1 : 0);
                Due.due(call + ", above", code(x, put, 3, 1), INDEX);
                Due.due(call + ", below", code(x, put, -1, 1), INDEX);
                Due.due(call + ", far above", code(x, put, 1L << 32, 1), INDEX);
                Due.due(call + ", no items", code(x, "0 0; 0 1; 18 1 " + b, 0, 0), INDEX);
                Due.due(call + ", missing", code(x, "0 -1; 0 1; 18 2 " + b, 0, 0), NOTHING);
            }
        }
    }

    private static void into() {
        Due.says("Terms 3",
            "(1 goes INTO 2, 4, 5, 6, 7; 2 INTO 4 to 7; 3 INTO 4 to 7; 4 INTO 5 to 7; "
            + "5 INTO 6, 7; 6 INTO 7.)");
        String[] pairs = {"12", "14", "15", "16", "17", "24", "25", "26", "27", "34", "35", "36",
            "37", "45", "46", "47", "56", "57", "67"};
        int asked = 0, put = 0;
        for (int from = 0; from < 8; from++) {
            for (int to = 0; to < 8; to++) {
                if (from == to) continue;
                StoryClasses x = new StoryClasses();
                x.row(0, from, 1);
                x.row(1, to, 1);
                boolean listed = String.join(" ", pairs).contains("" + from + to);
                Due.due(from + " asked as " + to, code(x, "0 0; 17 0 " + to + "; 20", 0, 0),
                    listed ? 0 : ARGUMENT);
                if (x.told(0) == 0) asked++;
                String feed = "0 0; 0 1; 18 1 " + from + "; 0 1; 20";
                Due.due(from + " put into " + to, code(x, feed, 0, 0), listed ? 0 : ARGUMENT);
                if (x.told(0) == 0) put++;
            }
        }
        Due.due("pairs asked", asked, pairs.length);
        Due.due("pairs put", put, pairs.length);
    }
}
