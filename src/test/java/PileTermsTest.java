/** Terms 3, up to OP 11: ROUTINES, the PILE, numbers and places. */
final class PileTermsTest {
    private static final int FULL = StoryClasses.FULL, NONE = StoryClasses.NONE;
    private static final int NOTHING = 1, ZERO = 6, PILE = 8, BEHIND = 10, OWN = 11;
    private static final long MOST = Long.MAX_VALUE, LEAST = Long.MIN_VALUE;
    /** How many numbers each OP takes (19 with b = 3, 23 with a = 6). */
    private static final int[] TAKES = {0, 0, 1, 2, 2, 2, 2, 2, 2, 2, 0, 1, 1, 2, 0, 1, 0, 1, 2, 3,
        1, 1, 0, 2, 3, 2, 1, 0, 0, 0};

    private PileTermsTest() { }

    public static void main(String[] args) {
        locals();
        places();
        guards();
        lasts();
        ownLocalsAndPile();
        latestFirst();
        tooFew();
        inTheOrderLaid();
        faultsBeforeLaying();
        eight();
        laysAndLocals();
        numbers();
        divisions();
        comparisons();
        goes();
        behind();
        Due.end();
    }

    private static void locals() {
        Due.says("Terms 3", "ROUTINES (12) have LOCALS (1 to 6),");
        StoryClasses x = new StoryClasses();
        for (int k = 0; k < 12; k++) Due.due("routine", x.routine(1 + k % 6), k);
        Due.due("the 13th", x.routine(1), FULL);
        for (int k = 0; k < 12; k++) {
            int last = k % 6;
            Due.due("behind the last local", x.op(k, 1, last + 1, 0), StoryClasses.BAD);
            Due.more(x, k, "0 5; 2 " + last + "; 1 " + last + "; 20");
            Due.gives("the last local", x, k, 5);
        }
    }

    private static void places() {
        Due.says("Terms 3", "OPS at places 0, 1, .. (30),");
        StoryClasses x = new StoryClasses();
        Due.tell(x, 1, Due.times(14, "0 3; 2 0") + "; 1 0; 20");
        Due.due("the 31st", x.op(0, 20, 0, 0), FULL);
        Due.gives("up to the last place", x, 0, 3);
        Due.due("thirty steps", x.told(3), 30);
        Due.tell(x, 1, "10 29; " + Due.times(28, "22") + "; 21");
        Due.faults("place 29", x, 1, PILE, 29);
    }

    private static void guards() {
        Due.says("Terms 3", "GUARDS (4),");
        StoryClasses x = new StoryClasses();
        Due.tell(x, 1, "22; 0 4; 20");
        for (int k = 0; k < 3; k++) Due.due("guard", x.guard(0, 1, 30, 0, 1), k);
        Due.faults("none of three takes it", x, 0, BEHIND, 0);
        Due.due("the 4th", x.guard(0, 0, 1, 0, 1), 3);
        Due.gives("the 4th takes it", x, 0, 4);
        Due.due("the 5th", x.guard(0, 0, 1, 0, 2), FULL);
        Due.gives("the 4th takes it still", x, 0, 4);
    }

    private static void lasts() {
        Due.says("Terms 3", "and perhaps a place at which their LAST begins.");
        StoryClasses x = new StoryClasses();
        Due.tell(x, 1, "0 1; 20; 0 2; 20");
        Due.gives("none", x, 0, 1);
        x.last(0, 2);
        Due.gives("one", x, 0, 2);
        x.last(0, NONE);
        Due.gives("none again", x, 0, 1);
    }

    private static void ownLocalsAndPile() {
        Due.says("Terms 3", "One that is open has its LOCALS and a PILE of numbers (8).");
        StoryClasses x = new StoryClasses();
        // Both fill their PILES and set LOCAL 0.
        Due.tell(x, 1, "0 40; 2 0; " + Due.times(7, "0 1") + "; 19 1 0; "
            + Due.times(7, "3") + "; 1 0; 3; 20");
        Due.tell(x, 1, "0 900; 2 0; " + Due.times(8, "0 2") + "; " + Due.times(7, "3") + "; 20");
        Due.gives("each its own", x, 0, 7 + 16 + 40);
        // The same ROUTINE opened again, and in the next RUN.
        Due.tell(x, 2, "1 0; 11 8; 0 5; 2 1; 0 0; 19 2 1; 26; 10 8; 1 1; 20");
        Due.due("run", x.run(2, 1, 0), 0);
        Due.due("the outer one's local", x.result(), 5);
        Due.due("the inner one's local", x.output(0), 0);
        Due.due("run", x.run(2, 0, 0), 0);
        Due.due("in the next run", x.result(), 0);
        Due.tell(x, 1, "0 1; 0 1; 20");
        Due.tell(x, 1, "26");
        Due.gives("leaves one", x, 3, 1);
        Due.faults("nothing of it in the next run", x, 4, PILE, 0);
    }

    private static void latestFirst() {
        Due.says("Terms 3", "An OP (with numbers a, b) takes from the PILE, the latest first");
        StoryClasses x = new StoryClasses();
        Due.gives(x, "0 1; 0 2; 0 3; 26; 26; 20", 1);
        Due.due("the latest", x.output(0), 3);
        Due.due("the one before it", x.output(1), 2);
        Due.gives(x, "0 100; 0 7; 0 2; 6; 26; 20", 100);
        Due.due("two of three", x.output(0), 3);
    }

    private static void tooFew() {
        Due.says("Terms 3", "(PILE: there are too few: none is taken;");
        for (int op = 0; op < 30; op++) {
            for (int laid = 0; laid < TAKES[op]; laid++) {
                StoryClasses x = new StoryClasses();
                int routine = x.routine(1);
                for (int k = 0; k < laid; k++) x.op(routine, 0, 0, 0);
                x.op(routine, op, op == 23 ? 6 : 0, 3);
                Due.faults(laid + " for " + op, x, routine, PILE, laid);
            }
        }
        for (int message = 0; message < 9; message++) {
            StoryClasses x = new StoryClasses();
            boolean two = message == 1 || message >= 6;
            Due.faults(x, "23 " + message, PILE, 0);
            Due.faults(x, "0 0; 23 " + message, two ? PILE : NOTHING, 1);
            Due.faults(x, "0 0; 0 0; 23 " + message, NOTHING, 2);
        }
        for (int b = 1; b < 7; b++) {
            StoryClasses x = new StoryClasses();
            int routine = x.routine(1);
            for (int k = 1; k < b; k++) x.op(routine, 0, 0, 0);
            x.op(routine, 19, 0, b);
            Due.faults("one too few for 19", x, routine, PILE, b - 1);
        }
    }

    private static void inTheOrderLaid() {
        Due.says("Terms 3", "x, y, i, n, s, t are told in the order in which they were laid);");
        StoryClasses x = new StoryClasses();
        for (int kind = 0; kind < 3; kind++) x.thing(kind);
        x.row(0, 4, 3);
        Due.gives(x, "0 5; 0 3; 4; 20", 2);
        Due.gives(x, "0 1; 0 2; 8; 20", 1);
        Due.gives(x, "0 2; 0 7; 13 0 4; 0 0; 20", 0);
        Due.due("13 of i, x", x.item(0, 2), 7);
        Due.gives(x, "0 1; 0 8; 18 0 4; 0 0; 20", 0);
        Due.due("18 of i, x", x.item(0, 1), 8);
        Due.gives(x, "0 2; 0 5; 23 6; 20", 0);
        Due.due("23 of t, n", x.of(2, 2), 5);
        Due.gives(x, "0 0; 0 3; 0 2; 24; 0 0; 20", 0);
        Due.due("24 of s, i, t", x.of(0, 8), 2);
        Due.gives(x, "0 0; 0 3; 25; 20", 2);
    }

    private static void faultsBeforeLaying() {
        Due.says("Terms 3", "then come its FAULTS, as told; then what it does;");
        StoryClasses x = new StoryClasses();
        Due.faults(x, "12 0 0", PILE, 0);
        Due.faults(x, "0 1; 6", PILE, 1);
        Due.faults(x, Due.times(8, "0 1") + "; 14 0", NOTHING, 8);
        Due.faults(x, Due.times(3, "27; 26") + "; " + Due.times(8, "0 1") + "; 27", 7, 14);
        Due.faults(x, "0 1; 21", OWN, 1);
        // The place behind is looked at when all else is done.
        Due.faults(x, "0 5; 0 0; 6", ZERO, 2);
        Due.faults(x, "0 5; 26", BEHIND, 1);
        Due.due("what it did", x.output(0), 5);
    }

    private static void eight() {
        Due.says("Terms 3", "then it lays something (PILE: there are 8; what it did stays).");
        String full = Due.times(8, "0 1");
        StoryClasses x = new StoryClasses();
        x.row(0, 4, 2);
        Due.faults(x, full + "; 0 5", PILE, 8);
        Due.faults(x, full + "; 1 0", PILE, 8);
        Due.faults(x, full + "; 14 0", PILE, 8);
        Due.faults(x, full + "; 28", PILE, 8);
        Due.faults(x, full + "; 27", PILE, 8);
        Due.due("it is kept", x.count(2, 0), 1);
        x.put(0, 1, 9);
        Due.faults(x, full + "; 28", PILE, 8);
        Due.due("it is brought back", x.item(0, 1), 0);
        Due.due("and goes", x.count(2, 0), 0);
        Due.gives(x, full + "; " + Due.times(7, "3") + "; 20", 8);
        Due.gives(x, full + "; 12 0 4; 17 0 4; 12 0 4; 20", 0);
        Due.gives(x, full + "; 16 3; 29 3 0; 26; 0 6; 20", 6);
        Due.faults("behind comes after laying", x, Due.tell(x, 1, "10 2; 0 0; " + full + "; 0 1"),
            PILE, 10);
    }

    private static void laysAndLocals() {
        Due.says("Terms 3", "0 lays a.");
        for (int a : new int[] {0, 1, -1, Integer.MAX_VALUE, Integer.MIN_VALUE}) {
            Due.gives(new StoryClasses(), "0 " + a + "; 20", a);
        }
        Due.says("Terms 3", "1 lays LOCAL a.");
        StoryClasses x = new StoryClasses();
        for (int a = 0; a < 6; a++) {
            int routine = Due.tell(x, 6, "1 " + a + "; 20");
            Due.due("run", x.run(routine, LEAST, MOST), 0);
            Due.due("local " + a, x.result(), a == 0 ? LEAST : a == 1 ? MOST : 0);
        }
        Due.says("Terms 3", "2 takes x: LOCAL a becomes it.");
        StoryClasses y = new StoryClasses();
        int routine = Due.tell(y, 6, "0 10; 0 11; 0 12; 0 13; 0 14; 0 15; 2 0; 2 1; 2 2; 2 3; 2 4; "
            + "2 5; 1 0; 26; 1 1; 26; 1 2; 26; 1 3; 26; 1 4; 26; 1 5; 26; 1 5; 20");
        Due.gives("sets", y, routine, 10);
        for (int a = 0; a < 6; a++) Due.due("local " + a, y.output(a), 15 - a);
        Due.gives(y, "0 1; 0 2; 2 3; 20", 1);
    }

    private static void of(int op, long a, long b, long want) {
        StoryClasses x = new StoryClasses();
        Due.tell(x, 2, "1 0; 1 1; " + op + "; 20");
        Due.due("op " + op + ": run", x.run(0, a, b), 0);
        Due.due("op " + op + " of " + a + ", " + b, x.result(), want);
    }

    private static void numbers() {
        Due.says("Terms 3", "Of x, y: 3 lays x + y, 4 x - y, 5 x * y,");
        of(3, 5, 3, 8);
        of(3, -5, 3, -2);
        of(3, MOST, MOST, -2);
        of(4, 5, 3, 2);
        of(4, 3, 5, -2);
        of(4, LEAST, LEAST, 0);
        of(5, 5, 3, 15);
        of(5, -5, 3, -15);
        of(5, MOST, MOST, 1);
        of(5, LEAST, 0, 0);
    }

    private static void divisions() {
        Due.says("Terms 3", "6 x / y, 7 x % y (6, 7 as longs: ZERO),");
        of(6, 7, 2, 3);
        of(6, -7, 2, -3);
        of(6, 7, -2, -3);
        of(6, 0, 5, 0);
        of(6, LEAST, -1, LEAST);
        of(6, MOST, LEAST, 0);
        of(6, 1L << 40, 1L << 32, 256);
        of(7, 7, 4, 3);
        of(7, -7, 4, -3);
        of(7, 7, -4, 3);
        of(7, LEAST, -1, 0);
        of(7, 5, 1L << 32, 5);
        for (int op = 6; op < 8; op++) {
            for (long a : new long[] {0, 1, MOST, LEAST}) {
                StoryClasses x = new StoryClasses();
                Due.tell(x, 2, "1 0; 1 1; " + op + "; 20");
                Due.due("run", x.run(0, a, 0), 1);
                Due.due(a + " by 0", x.told(0), ZERO);
                Due.due(a + " by 0", x.told(2), 2);
            }
        }
    }

    private static void comparisons() {
        Due.says("Terms 3", "8 whether x is below y, 9 whether they are the same (1, 0).");
        of(8, 1, 2, 1);
        of(8, 2, 2, 0);
        of(8, 3, 2, 0);
        of(8, LEAST, MOST, 1);
        of(8, MOST, LEAST, 0);
        of(8, -1, 0, 1);
        of(8, 1L << 32, 1, 0);
        of(9, 2, 2, 1);
        of(9, 2, 3, 0);
        of(9, 0, 1L << 32, 0);
        of(9, LEAST, LEAST, 1);
        of(9, MOST, LEAST, 0);
    }

    private static void goes() {
        Due.says("Terms 3", "10 goes to place a.");
        StoryClasses x = new StoryClasses();
        Due.gives(x, "10 3; 0 1; 20; 0 2; 20", 2);
        Due.gives(x, "0 7; 10 4; 22; 22; 10 6; 22; 20", 7);
        Due.gives(x, "10 3; 0 9; 20; 10 1", 9);
        Due.says("Terms 3", "11 takes x, goes to place a if it is 0.");
        int choice = Due.tell(x, 1, "0 8; 1 0; 11 5; 0 1; 20; 20");
        for (long v : new long[] {0, 1, -1, 1L << 32, LEAST, MOST}) {
            Due.due("run", x.run(choice, v, 0), 0);
            Due.due("of " + v, x.result(), v == 0 ? 8 : 1);
        }
        Due.says("Terms 3", "(Else an OP goes on at the next place.");
        Due.gives(x, "0 1; 11 29; 0 6; 20", 6);
        Due.due("four steps", x.told(3), 4);
        Due.gives(x, "0 0; 11 2; 0 6; 20", 6);
    }

    private static void behind() {
        Due.says("Terms 3",
            "BEHIND: there is no OP at that place; the place of this FAULT is that of "
            + "the OP that goes there.)");
        StoryClasses x = new StoryClasses();
        Due.faults(x, "0 1", BEHIND, 0);
        Due.faults(x, "0 1; 0 2", BEHIND, 1);
        Due.faults(x, "0 1; 10 2", BEHIND, 1);
        Due.faults(x, "10 29; 0 1", BEHIND, 0);
        Due.faults(x, "0 1; 1 0; 11 29", BEHIND, 2);
        Due.faults(x, "0 1; 11 0", BEHIND, 1);
        Due.due("two steps", x.told(3), 2);
        Due.faults(x, Due.times(15, "0 1; 26"), BEHIND, 29);
        int one = Due.tell(x, 1, "0 5; 20");
        Due.faults("behind a call", x, Due.tell(x, 1, "0 1; 19 " + one + " 0"), BEHIND, 1);
        Due.due("the steps of both", x.told(3), 4);
        int guarded = Due.tell(x, 1, "0 1; 10 20; 0 3; 20");
        x.guard(guarded, 20, 21, 0, 2);
        Due.faults("not the place it goes to", x, guarded, BEHIND, 1);
        x.guard(guarded, 1, 2, BEHIND, 2);
        Due.gives("but the op's", x, guarded, 3);
    }
}
