/** Promises 8 and 9: thing, of. */
final class ThingTest {
    private static final int BAD = StoryClasses.BAD, FULL = StoryClasses.FULL;
    private static final int NONE = StoryClasses.NONE;
    private static final int MAX = Integer.MAX_VALUE, MIN = Integer.MIN_VALUE;
    private static final int[] PLACES = {4, 3, 3, 3, 2, 2};

    private ThingTest() { }

    public static void main(String[] args) {
        thing();
        of();
        noneSuch();
        Due.end();
    }

    private static void thing() {
        Due.says("Promise 8", "A THING of a KIND: its number.");
        StoryClasses x = new StoryClasses();
        for (int t = 0; t < 12; t++) Due.due("thing", x.thing(5 - t % 6), t);
        for (int t = 0; t < 12; t++) Due.due("kind", x.of(t, 0), 5 - t % 6);
        Due.says("Promise 8", "BAD;");
        StoryClasses y = new StoryClasses();
        for (int kind : new int[] {MIN, -1, 6, MAX}) {
            Due.due("kind " + kind, y.thing(kind), BAD);
            Due.due("kind " + kind + ", when full", x.thing(kind), BAD);
        }
        Due.due("none came", y.count(0, 0), 0);
        Due.says("Promise 8", "FULL.");
        for (int kind = 0; kind < 6; kind++) Due.due("full", x.thing(kind), FULL);
        Due.due("none came", x.count(0, 0), 12);
    }

    private static void of() {
        Due.says("Promise 9", "Of a THING: 0 its KIND, 1 COUNT, 2 MARK,");
        StoryClasses x = new StoryClasses();
        for (int kind = 0; kind < 6; kind++) x.thing(kind);
        int take = Due.tell(x, 2, "1 0; 1 1; 23 1; 20");
        int mark = Due.tell(x, 2, "1 0; 1 1; 23 6; 20");
        int crate = Due.tell(x, 2, "1 0; 1 1; 23 7; 20");
        int lantern = Due.tell(x, 2, "1 0; 1 1; 23 8; 20");
        for (int t = 0; t < 6; t++) {
            x.run(take, t, 3 + t);
            x.run(mark, t, 20 + t);
            Due.due("kind", x.of(t, 0), t);
            Due.due("count", x.of(t, 1), 3 + t);
            Due.due("mark", x.of(t, 2), 20 + t);
        }
        x.run(mark, 0, MIN);
        Due.due("the least mark", x.of(0, 2), MIN);
        Due.says("Promise 9", "3 OWN MARK (0 of others),");
        for (int t = 0; t < 6; t++) {
            x.run(crate, t, 30 + t);
            x.run(lantern, t, 40 + t);
            Due.due("own mark", x.of(t, 3), t == 0 || t == 4 ? 0 : t == 5 ? 45 : 30 + t);
        }
        Due.says("Promise 9", "4 how many places its SHELF has,");
        for (int t = 0; t < 6; t++) Due.due("places", x.of(t, 4), PLACES[t]);
        Due.says("Promise 9", "5 and on which THING lies at place 0 and on (NONE).");
        // LOCAL 1 is a hundred times the place, and the THING.
        int fill = Due.tell(x, 2, "1 0; 1 1; 0 100; 6; 1 1; 0 100; 7; 24; 0 1; 20");
        for (int t = 0; t < 6; t++) {
            for (int i = 0; i < PLACES[t]; i++) Due.due("empty", x.of(t, 5 + i), NONE);
            for (int i = 0; i < PLACES[t]; i++) {
                Due.due("shelve", x.run(fill, t, 100 * i + t), 0);
                Due.due("it lies there", x.of(t, 5 + i), t);
                if (i + 1 < PLACES[t]) Due.due("the next is empty", x.of(t, 6 + i), NONE);
            }
        }
    }

    private static void noneSuch() {
        Due.says("Promise 9", "0 also: there is none such.");
        StoryClasses x = new StoryClasses();
        for (int kind = 0; kind < 6; kind++) x.thing(kind);
        for (int t = 0; t < 6; t++) {
            for (int what : new int[] {MIN, MIN + 4, -1, 5 + PLACES[t], 9, 10, MAX}) {
                Due.due("what " + what + " of " + t, x.of(t, what), 0);
            }
        }
        for (int t : new int[] {MIN, -1, 6, 12, MAX}) {
            for (int what = -1; what < 10; what++) Due.due("of " + t, x.of(t, what), 0);
        }
    }
}
