/** Promises 8 and 9: thing, of; and the MESSAGES and SHELVES that change what they tell. */
final class ThingTest {
    private static final int BAD = StoryClasses.BAD, FULL = StoryClasses.FULL;
    private static final int BOX = 0, CRATE = 1, CAGE = 2, CART = 3, LAMP = 4, LANTERN = 5;
    private static final int NOTHING = 1, INDEX = 2, CAST = 3, STORE = 4, OWN = 11, DUMB = 12;

    private ThingTest() { }

    public static void main(String[] args) {
        made();
        weigh();
        take();
        glowAndOpen();
        marks();
        wrapping();
        noSuchThing();
        shelves();
        Due.end();
    }

    /** An object with THINGS 0 to 5 of the KINDS 0 to 5. */
    private static StoryClasses six() {
        StoryClasses x = new StoryClasses();
        for (int kind = 0; kind < 6; kind++) x.thing(kind);
        return x;
    }

    /** Sends by a ROUTINE of two OPS more than it takes: LOCAL 0 is the THING, LOCAL 1 is n. */
    private static int send(StoryClasses x, int message, long t, long n) {
        boolean brings = message == 1 || message >= 6;
        int routine = brings
            ? Due.tell(x, 2, 1, 0, 0, 1, 1, 0, 23, message, 0, 20, 0, 0)
            : Due.tell(x, 2, 1, 0, 0, 23, message, 0, 20, 0, 0);
        return x.run(routine, t, n);
    }

    private static void answers(StoryClasses x, int message, long t, long n, long want) {
        String call = "message " + message + " to " + t + " with " + n;
        Due.due(call + ": run", send(x, message, t, n), 0);
        Due.due(call, x.result(), want);
    }

    private static void refuses(StoryClasses x, int message, long t, int code, long number) {
        String call = "message " + message + " to " + t;
        Due.due(call + ": run", send(x, message, t, 10), 1);
        Due.due(call + ": code", x.told(0), code);
        Due.due(call + ": number", x.number(), number);
    }

    private static void made() {
        StoryClasses x = six();
        int[] places = {4, 3, 3, 3, 2, 2};
        for (int t = 0; t < 6; t++) {
            Due.due("kind", x.of(t, 0), t);
            for (int what = 1; what < 4; what++) Due.due("at first", x.of(t, what), 0);
            Due.due("places", x.of(t, 4), places[t]);
            for (int i = 0; i < places[t]; i++) Due.due("empty", x.of(t, 5 + i), StoryClasses.NONE);
            Due.due("behind the shelf", x.of(t, 5 + places[t]), 0);
            Due.due("below", x.of(t, -1), 0);
            Due.due("far above", x.of(t, Integer.MAX_VALUE), 0);
            Due.due("far below", x.of(t, Integer.MIN_VALUE), 0);
        }
        Due.due("no such thing", x.of(6, 4), 0);
        Due.due("no such thing", x.of(-1, 5), 0);
        Due.due("no such kind", x.thing(6), BAD);
        Due.due("no such kind", x.thing(-1), BAD);
        for (int t = 6; t < 12; t++) Due.due("thing", x.thing(LAMP), t);
        Due.due("full", x.thing(LAMP), FULL);
        Due.due("bad comes first", x.thing(6), BAD);
        Due.due("twelve", x.count(0, 0), 12);
    }

    private static void weigh() {
        StoryClasses x = six();
        for (int t = BOX; t <= LAMP; t++) send(x, 1, t, 3);
        StoryClasses y = six();
        answers(x, 0, BOX, 0, 5);
        answers(x, 0, CRATE, 0, 10);
        answers(x, 0, CAGE, 0, 10);
        answers(x, 0, CART, 0, 11);
        answers(x, 0, LAMP, 0, 5);
        answers(y, 0, LANTERN, 0, 2);
        answers(y, 8, LANTERN, 9, 0);
        answers(y, 0, LANTERN, 0, -7);
    }

    private static void take() {
        StoryClasses x = six();
        answers(x, 1, BOX, 10, 10);
        answers(x, 1, BOX, -3, 7);
        answers(x, 1, CRATE, 9, 9);
        refuses(x, 1, CRATE, OWN, 50);
        Due.due("a refused crate stays", x.of(CRATE, 1), 9);
        answers(x, 1, CAGE, 4, 4);
        refuses(x, 1, CAGE, OWN, 50);
        Due.due("a cage marks in any case", x.of(CAGE, 3), 2);
        Due.due("a refused cage stays", x.of(CAGE, 1), 4);
        StoryClasses y = six();
        refuses(y, 1, CART, OWN, 50);
        Due.due("a cart is a cage", y.of(CART, 3), 1);
        answers(y, 1, LAMP, 4, 4);
        answers(y, 1, LAMP, 5, 9);
        Due.due("a lamp's mark", y.of(LAMP, 2), 5);
        answers(y, 1, LANTERN, 4, 4);
        answers(y, 1, LANTERN, 5, 5);
        Due.due("a lantern's count", y.of(LANTERN, 1), 9);
        Due.due("a lantern's own mark", y.of(LANTERN, 3), 0);
        Due.due("a box has no mark of it", y.of(BOX, 2), 0);
    }

    private static void glowAndOpen() {
        StoryClasses x = six();
        for (int t = BOX; t <= CART; t++) refuses(x, 2, t, CAST, 0);
        send(x, 1, LAMP, 3);
        send(x, 1, LANTERN, 3);
        answers(x, 2, LAMP, 0, 10);
        answers(x, 2, LANTERN, 0, 9);
        StoryClasses y = six();
        for (int t = CRATE; t <= CART; t++) send(y, 7, t, 7);
        refuses(y, 3, BOX, DUMB, 0);
        refuses(y, 3, LAMP, DUMB, 0);
        refuses(y, 3, LANTERN, DUMB, 0);
        answers(y, 3, CRATE, 0, 7);
        answers(y, 3, CAGE, 0, 107);
        answers(y, 3, CART, 0, 107);
    }

    private static void marks() {
        for (int t = BOX; t <= LANTERN; t++) {
            StoryClasses x = six();
            boolean crate = t >= CRATE && t <= CART;
            answers(x, 6, t, 11, 0);
            answers(x, 6, t, 12, 11);
            answers(x, 4, t, 0, 12);
            if (crate) {
                answers(x, 7, t, 21, 0);
                answers(x, 7, t, 22, 21);
                answers(x, 5, t, 0, 22);
            } else {
                refuses(x, 7, t, CAST, 0);
                refuses(x, 5, t, CAST, 0);
            }
            if (t == LANTERN) answers(x, 8, t, 31, 0);
            else refuses(x, 8, t, CAST, 0);
            Due.due("mark", x.of(t, 2), 12);
            Due.due("own mark", x.of(t, 3), crate ? 22 : t == LANTERN ? 31 : 0);
        }
    }

    private static void wrapping() {
        StoryClasses x = six();
        answers(x, 1, BOX, Integer.MAX_VALUE, Integer.MAX_VALUE);
        answers(x, 1, BOX, 1, Integer.MIN_VALUE);
        answers(x, 6, BOX, (1L << 32) + 5, 0);
        answers(x, 4, BOX, 0, 5);
        answers(x, 1, LAMP, Integer.MAX_VALUE, Integer.MAX_VALUE);
        answers(x, 0, LAMP, 0, Integer.MIN_VALUE + 1);
        answers(x, 7, CAGE, Integer.MAX_VALUE, 0);
        answers(x, 1, CAGE, 1, 1);
        Due.due("an own mark wraps", x.of(CAGE, 3), Integer.MIN_VALUE);
    }

    private static void noSuchThing() {
        StoryClasses x = new StoryClasses();
        x.thing(BOX);
        refuses(x, 0, 1, NOTHING, 0);
        refuses(x, 0, -1, NOTHING, 0);
        refuses(x, 2, 1L << 32, NOTHING, 0);
        refuses(x, 6, Long.MIN_VALUE, NOTHING, 0);
    }

    /** SHELF of THING s at place i becomes t: the CODE of the FAULT, or 0. */
    private static void shelve(StoryClasses x, int s, int i, int t, int code) {
        int routine = Due.tell(x, 1, 0, s, 0, 0, i, 0, 0, t, 0, 24, 0, 0, 0, 1, 0, 20, 0, 0);
        x.run(routine, 0, 0);
        Due.due("shelve " + s + " " + i + " " + t, x.told(0), code);
    }

    private static void look(StoryClasses x, int s, int i, int code, long want) {
        int routine = Due.tell(x, 1, 0, s, 0, 0, i, 0, 25, 0, 0, 20, 0, 0);
        x.run(routine, 0, 0);
        Due.due("look " + s + " " + i, x.told(0), code);
        Due.due("look " + s + " " + i, x.result(), want);
    }

    private static void shelves() {
        for (int t = 0; t < 6; t++) {
            StoryClasses x = six();
            boolean crate = t >= CRATE && t <= CART;
            boolean lamp = t >= LAMP;
            shelve(x, BOX, 3, t, 0);
            shelve(x, CRATE, 2, t, crate ? 0 : STORE);
            shelve(x, CAGE, 2, t, crate ? 0 : STORE);
            shelve(x, CART, 0, t, crate ? 0 : STORE);
            shelve(x, LAMP, 1, t, lamp ? 0 : STORE);
            shelve(x, LANTERN, 1, t, lamp ? 0 : STORE);
            look(x, BOX, 3, 0, t);
            look(x, LAMP, 1, 0, lamp ? t : -1);
            Due.due("of", x.of(BOX, 8), t);
            Due.due("of", x.of(CART, 5), crate ? t : -1);
        }
        StoryClasses x = six();
        shelve(x, CRATE, 0, CART, 0);
        shelve(x, CRATE, 0, -1, 0);
        look(x, CRATE, 0, 0, -1);
        shelve(x, CRATE, 3, BOX, INDEX);
        shelve(x, CRATE, -1, BOX, INDEX);
        shelve(x, CRATE, 3, -1, INDEX);
        shelve(x, CRATE, 3, 6, NOTHING);
        shelve(x, CRATE, 0, -2, NOTHING);
        StoryClasses y = six();
        shelve(y, 6, 9, -1, NOTHING);
        shelve(y, -1, 0, 0, NOTHING);
        look(y, 6, 9, NOTHING, 0);
        look(y, LAMP, 2, INDEX, 0);
        look(y, BOX, 4, INDEX, 0);
        look(y, BOX, -1, INDEX, 0);
    }
}
