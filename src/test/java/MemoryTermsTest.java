/** Terms 1: FAULTS, MEMORY and LANES. */
final class MemoryTermsTest {
    private static final int BAD = StoryClasses.BAD, NONE = StoryClasses.NONE;
    private static final long MOST = Long.MAX_VALUE, LEAST = Long.MIN_VALUE;

    private MemoryTermsTest() { }

    public static void main(String[] args) {
        codes();
        numbers();
        rows();
        missing();
        items();
        ranges();
        truths();
        lowestBits();
        nearest();
        asNumbers();
        cutOff();
        severalPlaces();
        Due.end();
    }

    /** ROW 0 has 3 ints; THING 0 is a CRATE, 1 a BOX. */
    private static StoryClasses small() {
        StoryClasses x = new StoryClasses();
        x.row(0, 4, 3);
        x.thing(1);
        x.thing(0);
        return x;
    }

    private static void codes() {
        Due.says("Terms 1",
            "FAULTS have CODES: 1 NOTHING, 2 INDEX, 3 CAST, 4 STORE, 5 SIZE, 6 ZERO, "
            + "7 ARGUMENT, 8 PILE, 9 DEEP, 10 BEHIND, 11 OWN, 12 DUMB;");
        Due.faults(small(), "14 1", 1, 0);
        Due.faults(small(), "0 3; 12 0 4", 2, 1);
        Due.faults(small(), "0 0; 12 0 5", 3, 1);
        Due.faults(small(), "0 0; 0 0; 0 1; 24", 4, 3);
        Due.faults(small(), "0 -1; 15 0 4", 5, 1);
        Due.faults(small(), "0 1; 0 0; 6", 6, 2);
        Due.faults(small(), "0 13; 15 0 4", 7, 1);
        Due.faults(small(), "26", 8, 0);
        Due.faults(small(), "19 0 0", 9, 0);
        Due.faults(small(), "10 1", 10, 0);
        Due.faults(small(), "0 1; 21", 11, 1);
        Due.faults(small(), "0 1; 23 3", 12, 1);
    }

    private static void thrown(long number) {
        StoryClasses x = small();
        Due.tell(x, 1, "1 0; 21");
        Due.due("run", x.run(0, number, 0), 1);
        Due.due("what was thrown", x.number(), number);
        x.guard(0, 1, 2, 11, 3);
        Due.more(x, 0, "22; 26; 26; 22");
        Due.due("run", x.run(0, number, 0), 1);
        Due.due("its code at the handler", x.output(0), 11);
        Due.due("its number at the handler", x.output(1), number);
        Due.due("the number of the fault after it", x.number(), 0);
    }

    private static void numbers() {
        Due.says("Terms 1", "and a NUMBER: of OWN what was thrown, of others 0.");
        for (long v : new long[] {0, 1, -1, 50, 1L << 32, MOST, LEAST}) thrown(v);
        StoryClasses x = small();
        Due.faults(x, "0 0; 0 10; 23 1", 11, 2);
        Due.due("what a crate throws", x.number(), 50);
        String[] others = {"14 1", "0 3; 12 0 4", "0 0; 12 0 5", "0 0; 0 0; 0 1; 24",
            "0 -1; 15 0 4", "0 1; 0 0; 6", "0 13; 15 0 4", "26", "19 0 0", "10 9", "0 1; 23 3"};
        for (String ops : others) {
            StoryClasses y = small();
            int routine = Due.tell(y, 1, ops);
            y.run(routine, 77, 0);
            Due.due("number of " + ops, y.number(), 0);
            int places = y.count(5, routine);
            y.guard(routine, 0, places, 0, places);
            Due.more(y, routine, "26; 26; 0 1; 20");
            y.run(routine, 77, 0);
            Due.due("number at the handler of " + ops, y.output(1), 0);
        }
    }

    private static void rows() {
        Due.says("Terms 1", "MEMORY are ROWS 0 to 11");
        StoryClasses x = new StoryClasses();
        for (int r = 0; r < 12; r++) Due.due("row " + r, x.row(r, 5, 12), 12);
        for (int r = 0; r < 12; r++) {
            for (int i = 0; i < 12; i++) x.put(r, i, 100 * r + i);
        }
        for (int r = 0; r < 12; r++) {
            for (int i = 0; i < 12; i++) Due.due("item", x.item(r, i), 100 * r + i);
        }
        Due.due("row -1", x.row(-1, 5, 12), BAD);
        Due.due("row 12", x.row(12, 5, 12), BAD);
    }

    private static void missing() {
        Due.says("Terms 1", "each MISSING (as at first)");
        StoryClasses x = new StoryClasses();
        for (int r = 0; r < 12; r++) Due.due("at first", x.about(r, 0), NONE);
        for (int r = 0; r < 12; r++) Due.due("put", x.put(r, 0, 1), -11);
        x.row(11, 0, 0);
        Due.due("one without items is not missing", x.about(11, 0), 0);
        Due.due("but has no item", x.put(11, 0, 1), -12);
    }

    private static void items() {
        Due.says("Terms 1", "or of a LANE, with 0 to 12 ITEMS");
        StoryClasses x = new StoryClasses();
        for (int lane = 0; lane < 8; lane++) {
            for (int n = 0; n <= 12; n++) {
                Due.due("row", x.row(0, lane, n), n);
                Due.due("items", x.about(0, 0), n);
                Due.due("lane", x.about(0, 1), lane);
            }
            Due.due("13 items", x.row(0, lane, 13), -17);
            Due.due("-1 items", x.row(0, lane, -1), -15);
        }
        Due.due("lane 8", x.row(0, 8, 1), BAD);
        Due.due("lane -1", x.row(0, -1, 1), BAD);
    }

    private static void is(int lane, long v, long want) {
        StoryClasses x = new StoryClasses();
        x.row(3, lane, 1);
        x.put(3, 0, v);
        Due.due("lane " + lane + ", " + v, x.item(3, 0), want);
        // The same by the OPS that hold.
        x.row(3, lane, 1);
        Due.tell(x, 1, "0 0; 1 0; 13 3 " + lane + "; 0 0; 12 3 " + lane + "; 20");
        Due.due("run", x.run(0, v, 0), 0);
        Due.due("lane " + lane + ", op 13, " + v, x.item(3, 0), want);
        Due.due("lane " + lane + ", op 12, " + v, x.result(), want);
    }

    private static void ranges() {
        Due.says("Terms 1", "0 truths, 1 bytes, 2 shorts, 3 signs (0 to 65535), 4 ints, 5 longs, "
            + "6 floats, 7 doubles.");
        long[] least = {0, -128, -32768, 0, Integer.MIN_VALUE, LEAST, LEAST, LEAST};
        long[] most = {1, 127, 32767, 65535, Integer.MAX_VALUE, MOST, MOST, MOST};
        for (int lane = 0; lane < 8; lane++) {
            is(lane, least[lane], least[lane]);
            is(lane, most[lane], most[lane]);
            is(lane, 0, 0);
            is(lane, 1, 1);
            if (lane < 5) is(lane, most[lane] + 1, least[lane]);
            if (lane < 5) is(lane, least[lane] - 1, most[lane]);
        }
    }

    private static void truths() {
        Due.says("Terms 1", "As something of a LANE a number is: 0 whether it is odd;");
        is(0, 2, 0);
        is(0, 3, 1);
        is(0, -1, 1);
        is(0, -2, 0);
        is(0, MOST, 1);
        is(0, LEAST, 0);
        is(0, LEAST + 1, 1);
        is(0, 1L << 32, 0);
        is(0, (1L << 32) + 1, 1);
    }

    private static void lowestBits() {
        Due.says("Terms 1", "1 to 5 its lowest bits;");
        is(1, 255, -1);
        is(1, 256, 0);
        is(1, 300, 44);
        is(1, MOST, -1);
        is(1, LEAST, 0);
        is(2, 65535, -1);
        is(2, 65536, 0);
        is(2, LEAST + 7, 7);
        is(3, -65536, 0);
        is(3, -65537, 65535);
        is(3, MOST, 65535);
        is(3, LEAST, 0);
        is(4, 1L << 32, 0);
        is(4, (1L << 32) - 1, -1);
        is(4, MOST, -1);
        is(4, LEAST, 0);
        is(5, MOST - 1, MOST - 1);
        is(5, LEAST + 1, LEAST + 1);
    }

    private static void nearest() {
        Due.says("Terms 1", "6, 7 the nearest float, double.");
        long f = 1L << 24, d = 1L << 53;
        is(6, f, f);
        is(6, f - 1, f - 1);
        is(6, f + 1, f);
        is(6, f + 2, f + 2);
        is(6, f + 3, f + 4);
        is(6, -f - 1, -f);
        is(6, -f - 3, -f - 4);
        is(6, 2 * f + 1, 2 * f);
        is(6, 2 * f + 3, 2 * f + 4);
        is(7, d, d);
        is(7, d - 1, d - 1);
        is(7, d + 1, d);
        is(7, d + 2, d + 2);
        is(7, d + 3, d + 4);
        is(7, -d - 1, -d);
        is(7, -d - 3, -d - 4);
        // Not by way of a double: just above the middle of two floats.
        long middle = (1L << 60) + (1L << 36);
        is(6, middle, 1L << 60);
        is(6, middle + 1, (1L << 60) + (1L << 37));
        is(7, f + 1, f + 1);
    }

    private static void asNumbers() {
        Due.says("Terms 1", "As a number such is: 1 or 0; itself;");
        is(0, 77, 1);
        is(0, 78, 0);
        for (int lane = 1; lane < 8; lane++) is(lane, 77, 77);
        for (int lane = 1; lane < 8; lane++) is(lane, -77, lane == 3 ? 65459 : -77);
    }

    private static void cutOff() {
        Due.says("Terms 1", "6, 7 cut off toward 0 (2^63 - 1 at most).");
        is(6, MOST, MOST);
        is(6, MOST - (1L << 38) + 1, MOST);
        is(6, MOST - (1L << 38), MOST - (1L << 39) + 1);
        is(6, LEAST, LEAST);
        is(6, LEAST + 1, LEAST);
        is(7, MOST, MOST);
        is(7, MOST - 511, MOST);
        is(7, MOST - 512, MOST - 1023);
        is(7, LEAST, LEAST);
        is(7, LEAST + 1, LEAST);
    }

    private static void severalPlaces() {
        Due.says("Terms 1", "One ROW can be in several places (it is the same one then).");
        StoryClasses x = new StoryClasses();
        x.row(4, 5, 12);
        for (int r = 0; r < 12; r++) x.share(r, 4);
        for (int r = 0; r < 12; r++) x.put(r, r, 50 + r);
        for (int r = 0; r < 12; r++) {
            Due.due("the same one", x.about(r, 2), 0);
            for (int i = 0; i < 12; i++) Due.due("item " + i + " of " + r, x.item(r, i), 50 + i);
        }
        x.row(0, 5, 12);
        Due.due("a new one in one place", x.item(0, 11), 0);
        for (int r = 1; r < 12; r++) Due.due("the others stay", x.item(r, 11), 61);
        x.miss(1);
        for (int r = 2; r < 12; r++) Due.due("the others stay", x.about(r, 2), 2);
        x.put(11, 0, 9);
        for (int r = 2; r < 12; r++) Due.due("the same one", x.item(r, 0), 9);
        Due.due("another one", x.item(0, 0), 0);
    }
}
