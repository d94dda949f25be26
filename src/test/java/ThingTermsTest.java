/** Terms 2: THINGS and MESSAGES. */
final class ThingTermsTest {
    private static final int FULL = StoryClasses.FULL, NONE = StoryClasses.NONE;
    private static final int BOX = 0, CRATE = 1, CAGE = 2, CART = 3, LAMP = 4, LANTERN = 5;
    private static final int WEIGH = 0, TAKE = 1, GLOW = 2, OPEN = 3, MARK = 4, OWN_MARK = 5,
        SET_MARK = 6, SET_CRATE = 7, SET_LANTERN = 8;
    private static final int NOTHING = 1, INDEX = 2, CAST = 3, STORE = 4, OWN = 11, DUMB = 12;
    private static final int MAX = Integer.MAX_VALUE, MIN = Integer.MIN_VALUE;

    private ThingTermsTest() { }

    public static void main(String[] args) {
        twelve();
        countAndMark();
        shelfAtFirst();
        kinds();
        ownMarks();
        shelfOfBox();
        shelfOfCrate();
        shelfOfLamp();
        numberAsInt();
        weigh();
        takeOfBox();
        takeOfCrate();
        takeOfCage();
        takeOfLamp();
        takeOfLantern();
        glow();
        open();
        marks();
        asTheKindThatItIs();
        Due.end();
    }

    private static boolean isCrate(int kind) { return kind >= CRATE && kind <= CART; }

    private static boolean isLamp(int kind) { return kind >= LAMP; }

    /** THINGS 0 to 5 of the KINDS 0 to 5; ROUTINES 0 to 8 send the MESSAGES 0 to 8. */
    private static StoryClasses six() {
        StoryClasses x = new StoryClasses();
        for (int kind = 0; kind < 6; kind++) x.thing(kind);
        for (int message = 0; message < 9; message++) {
            boolean brings = message == TAKE || message >= SET_MARK;
            Due.tell(x, 2, "1 0; " + (brings ? "1 1; " : "") + "23 " + message + "; 20");
        }
        return x;
    }

    private static void answers(StoryClasses x, int message, long t, long n, long want) {
        String call = "message " + message + " to " + t + " with " + n;
        Due.due(call + ": run", x.run(message, t, n), 0);
        Due.due(call, x.result(), want);
    }

    private static void refuses(StoryClasses x, int message, long t, long n, int code) {
        String call = "message " + message + " to " + t + " with " + n;
        Due.due(call + ": run", x.run(message, t, n), 1);
        Due.due(call + ": code", x.told(0), code);
        Due.due(call + ": number", x.number(), code == OWN ? 50 : 0);
    }

    /** COUNT, MARK, OWN MARK. */
    private static void has(StoryClasses x, int t, int count, int mark, int own) {
        Due.due("count of " + t, x.of(t, 1), count);
        Due.due("mark of " + t, x.of(t, 2), mark);
        Due.due("own mark of " + t, x.of(t, 3), own);
    }

    private static void twelve() {
        Due.says("Terms 2", "THINGS (12)");
        StoryClasses x = new StoryClasses();
        for (int t = 0; t < 12; t++) Due.due("thing", x.thing(t % 6), t);
        for (int kind = 0; kind < 6; kind++) Due.due("the 13th", x.thing(kind), FULL);
        Due.due("twelve", x.count(0, 0), 12);
        int last = Due.tell(x, 2, "1 0; 1 1; 23 6; 20");
        Due.due("the last hears", x.run(last, 11, 5), 0);
        Due.due("the last hears", x.of(11, 2), 5);
        Due.due("there is none behind it", x.run(last, 12, 5), 1);
        Due.due("there is none behind it", x.told(0), NOTHING);
    }

    private static void countAndMark() {
        Due.says("Terms 2", "have a COUNT, a MARK (ints, 0 at first, wrapping)");
        StoryClasses x = six();
        for (int t = 0; t < 6; t++) has(x, t, 0, 0, 0);
        answers(x, TAKE, BOX, MAX, MAX);
        answers(x, TAKE, BOX, 1, MIN);
        answers(x, TAKE, BOX, -1, MAX);
        answers(x, TAKE, CRATE, MIN, MIN);
        answers(x, TAKE, CRATE, MAX, -1);
        answers(x, SET_MARK, BOX, MAX, 0);
        answers(x, SET_MARK, BOX, MIN, MAX);
        answers(x, MARK, BOX, 0, MIN);
        answers(x, SET_MARK, BOX, 1L + MAX, MIN);
        answers(x, MARK, BOX, 0, MIN);
    }

    private static void shelfAtFirst() {
        Due.says("Terms 2", "and a SHELF with places for THINGS, empty at first.");
        int[] places = {4, 3, 3, 3, 2, 2};
        StoryClasses x = six();
        for (int t = 0; t < 6; t++) {
            Due.due("places", x.of(t, 4), places[t]);
            for (int i = 0; i < places[t]; i++) Due.due("empty", x.of(t, 5 + i), NONE);
        }
        StoryClasses y = new StoryClasses();
        y.thing(LAMP);
        Due.gives(y, "0 0; 0 1; 25; 20", NONE);
    }

    private static void kinds() {
        Due.says("Terms 2", "KINDS: 0 BOX. 1 CRATE, a BOX. 2 CAGE, a CRATE. 3 CART, a CAGE. "
            + "4 LAMP, a BOX. 5 LANTERN, a LAMP.");
        StoryClasses x = six();
        for (int t = 0; t < 6; t++) Due.due("kind", x.of(t, 0), t);
        for (int t = 0; t < 6; t++) {
            StoryClasses y = new StoryClasses();
            for (int kind = 0; kind < 6; kind++) y.thing(kind);
            puts(y, BOX, 0, t, 0);
            puts(y, CRATE, 0, t, isCrate(t) ? 0 : STORE);
            puts(y, LAMP, 0, t, isLamp(t) ? 0 : STORE);
        }
    }

    private static void ownMarks() {
        Due.says("Terms 2",
            "A CRATE (so also a CAGE, a CART) and a LANTERN have an OWN MARK besides "
            + "(likewise).");
        StoryClasses x = six();
        for (int t = 0; t < 6; t++) {
            Due.due("at first", x.of(t, 3), 0);
            int message = t == LANTERN ? SET_LANTERN : SET_CRATE;
            if (!isCrate(t) && t != LANTERN) continue;
            answers(x, SET_MARK, t, 3, 0);
            answers(x, message, t, MAX, 0);
            answers(x, message, t, (1L << 32) + 7, MAX);
            has(x, t, 0, 3, 7);
        }
        StoryClasses y = six();
        answers(y, SET_CRATE, CAGE, MAX, 0);
        answers(y, TAKE, CAGE, 1, 1);
        has(y, CAGE, 1, 0, MIN);
        answers(y, OPEN, CAGE, 0, MIN + 100);
    }

    /** Place i of the SHELF of THING s becomes THING t: that FAULT comes, or 0. */
    private static void puts(StoryClasses x, int s, int i, int t, int code) {
        int before = x.of(s, 5 + i);
        int routine = Due.tell(x, 1, "0 " + s + "; 0 " + i + "; 0 " + t + "; 24; 0 1; 20");
        x.run(routine, 0, 0);
        String call = "thing " + t + " at " + i + " of " + s;
        Due.due(call, x.told(0), code);
        Due.due(call + " lies there", x.of(s, 5 + i), code == 0 ? t : before);
    }

    /** Each place of the SHELF of a KIND takes each KIND that it has places for, and no other. */
    private static void shelf(int kind, int places, int leastKind, int mostKind) {
        for (int other = 0; other < 6; other++) {
            StoryClasses x = new StoryClasses();
            x.thing(kind);
            x.thing(other);
            boolean fits = other >= leastKind && other <= mostKind;
            Due.due("places of " + kind, x.of(0, 4), places);
            for (int i = 0; i < places; i++) puts(x, 0, i, 1, fits ? 0 : STORE);
            Due.faults(x, "0 0; 0 " + places + "; 0 1; 24", INDEX, 3);
            Due.faults(x, "0 0; 0 -1; 0 1; 24", INDEX, 3);
            Due.faults(x, "0 0; 0 " + places + "; 25", INDEX, 2);
            Due.faults(x, "0 0; 0 -1; 25", INDEX, 2);
        }
    }

    private static void shelfOfBox() {
        Due.says("Terms 2", "The SHELF of a BOX has 4 places for BOXES (any THINGS),");
        shelf(BOX, 4, BOX, LANTERN);
        StoryClasses x = new StoryClasses();
        x.thing(BOX);
        for (int i = 0; i < 4; i++) puts(x, 0, i, 0, 0);
        puts(x, 0, 2, NONE, 0);
        Due.due("the others lie there still", x.of(0, 6), 0);
        Due.due("the others lie there still", x.of(0, 8), 0);
    }

    private static void shelfOfCrate() {
        Due.says("Terms 2", "of a CRATE (CAGE, CART) 3 for CRATES,");
        for (int kind = CRATE; kind <= CART; kind++) shelf(kind, 3, CRATE, CART);
    }

    private static void shelfOfLamp() {
        Due.says("Terms 2", "of a LAMP, LANTERN 2 for LAMPS.");
        for (int kind = LAMP; kind <= LANTERN; kind++) shelf(kind, 2, LAMP, LANTERN);
    }

    private static void numberAsInt() {
        Due.says("Terms 2", "MESSAGES (n: as an int):");
        StoryClasses x = six();
        answers(x, TAKE, BOX, (1L << 32) + 5, 5);
        answers(x, TAKE, BOX, 1L + MAX, MIN + 5);
        answers(x, TAKE, CRATE, (1L << 32) + 9, 9);
        answers(x, TAKE, LANTERN, (1L << 32) - 1, -1);
        answers(x, SET_MARK, CART, Long.MAX_VALUE, 0);
        answers(x, SET_MARK, CART, Long.MIN_VALUE, -1);
        answers(x, SET_CRATE, CART, -1L << 31, 0);
        answers(x, SET_CRATE, CART, 1L << 40, MIN);
        answers(x, SET_LANTERN, LANTERN, 1L << 31, 0);
        has(x, CART, 0, 0, 0);
        has(x, LANTERN, -1, -1, MIN);
    }

    private static void weigh() {
        Due.says("Terms 2", "0 WEIGH: BOX: 2 and COUNT;");
        StoryClasses x = six();
        answers(x, WEIGH, BOX, 0, 2);
        answers(x, TAKE, BOX, 3, 3);
        answers(x, WEIGH, BOX, 0, 5);
        answers(x, TAKE, BOX, -5, -2);
        answers(x, WEIGH, BOX, 0, 0);
        Due.says("Terms 2", "CRATE: twice that;");
        answers(x, WEIGH, CRATE, 0, 4);
        answers(x, TAKE, CRATE, 9, 9);
        answers(x, WEIGH, CRATE, 0, 22);
        answers(x, TAKE, CRATE, -12, -3);
        answers(x, WEIGH, CRATE, 0, -2);
        Due.says("Terms 2", "CART: 1 more than a CRATE;");
        answers(x, WEIGH, CART, 0, 5);
        answers(x, TAKE, CART, 4, 4);
        answers(x, WEIGH, CART, 0, 13);
        Due.says("Terms 2", "LANTERN: what a BOX answers less OWN MARK.");
        answers(x, WEIGH, LANTERN, 0, 2);
        answers(x, TAKE, LANTERN, 3, 3);
        answers(x, SET_LANTERN, LANTERN, 9, 0);
        answers(x, WEIGH, LANTERN, 0, -4);
        answers(x, SET_LANTERN, LANTERN, -9, 9);
        answers(x, WEIGH, LANTERN, 0, 14);
    }

    private static void takeOfBox() {
        Due.says("Terms 2", "1 TAKE n: BOX: COUNT becomes n more, and is answered;");
        StoryClasses x = six();
        answers(x, TAKE, BOX, 10, 10);
        answers(x, TAKE, BOX, 0, 10);
        answers(x, TAKE, BOX, -13, -3);
        has(x, BOX, -3, 0, 0);
    }

    private static void takeOfCrate() {
        Due.says("Terms 2", "CRATE: OWN with 50, if COUNT + n is above 9, else as a BOX;");
        StoryClasses x = six();
        refuses(x, TAKE, CRATE, 10, OWN);
        has(x, CRATE, 0, 0, 0);
        answers(x, TAKE, CRATE, 9, 9);
        refuses(x, TAKE, CRATE, 1, OWN);
        answers(x, TAKE, CRATE, 0, 9);
        answers(x, TAKE, CRATE, -9, 0);
        answers(x, TAKE, CRATE, -1, -1);
        answers(x, TAKE, CRATE, 10, 9);
        has(x, CRATE, 9, 0, 0);
        refuses(x, TAKE, CRATE, MAX - 9, OWN);
        answers(x, TAKE, CRATE, MAX, MIN + 8);
        refuses(x, TAKE, CRATE, MIN + 2, OWN);
        has(x, CRATE, MIN + 8, 0, 0);
    }

    private static void takeOfCage() {
        Due.says("Terms 2", "CAGE: OWN MARK becomes 1 more (in any case), then as a CRATE;");
        StoryClasses x = six();
        for (int t = CAGE; t <= CART; t++) {
            answers(x, TAKE, t, 9, 9);
            has(x, t, 9, 0, 1);
            refuses(x, TAKE, t, 1, OWN);
            has(x, t, 9, 0, 2);
            answers(x, TAKE, t, 0, 9);
            has(x, t, 9, 0, 3);
        }
        has(x, CRATE, 0, 0, 0);
    }

    private static void takeOfLamp() {
        Due.says("Terms 2", "LAMP: as a BOX, then MARK becomes n (COUNT is answered);");
        StoryClasses x = six();
        answers(x, TAKE, LAMP, 10, 10);
        has(x, LAMP, 10, 10, 0);
        answers(x, TAKE, LAMP, -3, 7);
        has(x, LAMP, 7, -3, 0);
        answers(x, TAKE, LAMP, 0, 7);
        has(x, LAMP, 7, 0, 0);
    }

    private static void takeOfLantern() {
        Due.says("Terms 2", "LANTERN: as a LAMP, but MARK is answered.");
        StoryClasses x = six();
        answers(x, TAKE, LANTERN, 10, 10);
        answers(x, TAKE, LANTERN, -3, -3);
        has(x, LANTERN, 7, -3, 0);
        answers(x, TAKE, LANTERN, 0, 0);
        has(x, LANTERN, 7, 0, 0);
    }

    private static void glow() {
        Due.says("Terms 2", "2 GLOW: LAMP: 5 more than WEIGH;");
        StoryClasses x = six();
        answers(x, GLOW, LAMP, 0, 7);
        answers(x, TAKE, LAMP, 3, 3);
        answers(x, GLOW, LAMP, 0, 10);
        answers(x, TAKE, LAMP, -10, -7);
        answers(x, GLOW, LAMP, 0, 0);
        Due.says("Terms 2", "LANTERN: three times COUNT;");
        answers(x, GLOW, LANTERN, 0, 0);
        answers(x, SET_LANTERN, LANTERN, 4, 0);
        answers(x, TAKE, LANTERN, 3, 3);
        answers(x, GLOW, LANTERN, 0, 9);
        Due.says("Terms 2", "others: CAST.");
        for (int t = BOX; t <= CART; t++) refuses(x, GLOW, t, 0, CAST);
    }

    private static void open() {
        Due.says("Terms 2", "3 OPEN: BOX: DUMB;");
        StoryClasses x = six();
        refuses(x, OPEN, BOX, 0, DUMB);
        Due.says("Terms 2", "CRATE: OWN MARK;");
        answers(x, OPEN, CRATE, 0, 0);
        answers(x, SET_CRATE, CRATE, -4, 0);
        answers(x, OPEN, CRATE, 0, -4);
        Due.says("Terms 2", "CAGE: 100 more than a CRATE.");
        answers(x, OPEN, CAGE, 0, 100);
        answers(x, SET_CRATE, CAGE, -100, 0);
        answers(x, OPEN, CAGE, 0, 0);
    }

    private static void marks() {
        Due.says("Terms 2", "4: MARK.");
        StoryClasses x = six();
        for (int t = 0; t < 6; t++) answers(x, MARK, t, 0, 0);
        for (int t = 0; t < 6; t++) x.run(SET_MARK, t, 10 + t);
        for (int t = 0; t < 6; t++) answers(x, MARK, t, 0, 10 + t);
        Due.says("Terms 2", "5: OWN MARK of a CRATE (others: CAST).");
        x.run(SET_LANTERN, LANTERN, 3);
        for (int t = 0; t < 6; t++) {
            if (isCrate(t)) x.run(SET_CRATE, t, 20 + t);
            if (isCrate(t)) answers(x, OWN_MARK, t, 0, 20 + t);
            else refuses(x, OWN_MARK, t, 0, CAST);
        }
        Due.says("Terms 2",
            "6, 7, 8 n: MARK, OWN MARK of a CRATE, OWN MARK of a LANTERN becomes n");
        StoryClasses y = six();
        for (int t = 0; t < 6; t++) {
            Due.due("6", y.run(SET_MARK, t, 30 + t), 0);
            Due.due("7", y.run(SET_CRATE, t, 40 + t), isCrate(t) ? 0 : 1);
            Due.due("8", y.run(SET_LANTERN, t, 50 + t), t == LANTERN ? 0 : 1);
            has(y, t, 0, 30 + t, isCrate(t) ? 40 + t : t == LANTERN ? 50 + t : 0);
        }
        Due.says("Terms 2", "(7, 8, others: CAST);");
        for (int t = 0; t < 6; t++) {
            if (!isCrate(t)) refuses(y, SET_CRATE, t, 9, CAST);
            if (t != LANTERN) refuses(y, SET_LANTERN, t, 9, CAST);
            has(y, t, 0, 30 + t, isCrate(t) ? 40 + t : t == LANTERN ? 50 + t : 0);
        }
        Due.says("Terms 2", "what it was is answered.");
        for (int t = 0; t < 6; t++) {
            answers(y, SET_MARK, t, -1, 30 + t);
            answers(y, SET_MARK, t, 2, -1);
            if (isCrate(t)) answers(y, SET_CRATE, t, 9, 40 + t);
            if (isCrate(t)) answers(y, SET_CRATE, t, 0, 9);
            if (t == LANTERN) answers(y, SET_LANTERN, t, 9, 50 + t);
            if (t == LANTERN) answers(y, SET_LANTERN, t, 0, 9);
        }
    }

    private static void asTheKindThatItIs() {
        Due.says("Terms 2", "(A KIND of which nothing is told does as the one that it is.)");
        StoryClasses x = six();
        answers(x, WEIGH, CAGE, 0, 4);
        answers(x, WEIGH, LAMP, 0, 2);
        answers(x, TAKE, CAGE, 3, 3);
        answers(x, WEIGH, CAGE, 0, 10);
        answers(x, TAKE, LAMP, 3, 3);
        answers(x, WEIGH, LAMP, 0, 5);
        answers(x, TAKE, CART, 3, 3);
        has(x, CART, 3, 0, 1);
        refuses(x, OPEN, LAMP, 0, DUMB);
        refuses(x, OPEN, LANTERN, 0, DUMB);
        answers(x, SET_CRATE, CART, 7, 1);
        answers(x, OPEN, CART, 0, 107);
    }
}
