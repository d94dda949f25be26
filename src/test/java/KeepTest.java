/** Promises 19 (KEPT) and 20: what OPS 27 and 28 keep and bring back, and forget. */
final class KeepTest {
    private static final int ARGUMENT = 7;

    private KeepTest() { }

    public static void main(String[] args) {
        limits();
        sevenInARun();
        rowsComeBack();
        thingsComeBack();
        latestFirst();
        forgotten();
        Due.end();
    }

    private static int keeper(StoryClasses x) {
        return Due.tell(x, 1, 27, 0, 0, 20, 0, 0);
    }

    private static int bringer(StoryClasses x) {
        return Due.tell(x, 1, 28, 0, 0, 20, 0, 0);
    }

    private static void limits() {
        StoryClasses x = new StoryClasses();
        int keep = keeper(x);
        int bring = bringer(x);
        Due.gives("none is kept", x, bring, 0);
        for (int k = 1; k <= 3; k++) {
            Due.gives("kept", x, keep, k);
            Due.due("kept", x.count(2, 0), k);
        }
        Due.faults("three are kept", x, keep, ARGUMENT, 0);
        for (int k = 2; k >= 0; k--) {
            Due.gives("brought back", x, bring, 1);
            Due.due("left", x.count(2, 0), k);
        }
        Due.gives("none is kept", x, bring, 0);
    }

    private static void sevenInARun() {
        StoryClasses x = new StoryClasses();
        int loop = Due.tell(x, 1, 27, 0, 0, 26, 0, 0, 28, 0, 0, 26, 0, 0, 10, 0, 0);
        Due.faults("the seventh", x, loop, ARGUMENT, 0);
        Due.due("six times two", x.count(3, 0), 12);
        Due.due("steps", x.told(3), 31);
        Due.faults("again six in the next run", x, loop, ARGUMENT, 0);
        Due.due("six times two", x.count(3, 0), 12);
        // Those that are refused are no KEEPINGS: three, six refused, then three more.
        StoryClasses y = new StoryClasses();
        int tries = Due.tell(y, 2, 27, 0, 0, 26, 0, 0, 10, 0, 0,
            2, 1, 0, 2, 1, 0, 1, 0, 0, 0, 1, 0, 4, 0, 0, 2, 0, 0, 1, 0, 0, 11, 12, 0, 10, 0, 0,
            28, 0, 0, 26, 0, 0, 27, 0, 0, 26, 0, 0, 10, 12, 0);
        y.guard(tries, 0, 1, ARGUMENT, 3);
        Due.due("run", y.run(tries, 6, 0), 1);
        Due.due("code", y.told(0), ARGUMENT);
        Due.due("place", y.told(2), 14);
        Due.due("six refused and one", y.told(4), 7);
        Due.due("three, then three after a 28 each, and a 28", y.count(3, 0), 3 + 3 * 2 + 1);
    }

    private static void rowsComeBack() {
        StoryClasses x = new StoryClasses();
        int keep = keeper(x);
        int bring = bringer(x);
        x.row(0, 4, 3);
        x.put(0, 1, 11);
        x.share(5, 0);
        x.row(2, 6, 1);
        x.put(2, 0, 16777217);
        x.row(3, 3, 2);
        x.put(3, 1, -1);
        x.run(keep, 0, 0);
        x.row(3, 4, 9);
        x.put(0, 1, 12);
        x.row(5, 1, 2);
        x.miss(2);
        x.row(7, 7, 7);
        Due.gives("brought back", x, bring, 1);
        Due.due("an item", x.item(0, 1), 11);
        Due.due("as one", x.about(5, 2), 0);
        Due.due("a float", x.item(2, 0), 16777216);
        Due.due("missing", x.about(7, 0), StoryClasses.NONE);
        Due.due("how many items", x.about(3, 0), 2);
        Due.due("a lane", x.about(3, 1), 3);
        Due.due("a sign", x.item(3, 1), 65535);
        x.put(5, 1, 13);
        Due.due("it is one", x.item(0, 1), 13);
    }

    private static void thingsComeBack() {
        StoryClasses x = new StoryClasses();
        int keep = keeper(x);
        int bring = bringer(x);
        x.thing(0);
        x.thing(2);
        x.thing(5);
        // Each THING takes 4, gets MARK 6; the CAGE and the LANTERN OWN MARKS; the BOX a SHELF.
        int change = Due.tell(x, 1, 0, 0, 0, 0, 4, 0, 23, 1, 0, 2, 0, 0, 0, 1, 0, 0, 4, 0, 23, 1, 0,
            2, 0, 0, 0, 2, 0, 0, 8, 0, 23, 8, 0, 2, 0, 0, 0, 0, 0, 0, 6, 0, 23, 6, 0, 2, 0, 0,
            0, 0, 0, 0, 1, 0, 0, 1, 0, 24, 0, 0, 0, 1, 0, 20, 0, 0);
        x.run(keep, 0, 0);
        Due.gives("change", x, change, 1);
        x.run(keep, 0, 0);
        x.thing(1);
        Due.gives("change again", x, change, 1);
        Due.due("changed", x.of(0, 1), 8);
        Due.due("changed", x.of(1, 3), 2);
        Due.gives("brought back", x, bring, 1);
        int[][] once = {{0, 4, 6, 0}, {2, 4, 0, 1}, {5, 0, 0, 8}, {1, 0, 0, 0}};
        same(x, once);
        Due.due("the shelf", x.of(0, 6), 1);
        Due.gives("brought back", x, bring, 1);
        int[][] never = {{0, 0, 0, 0}, {2, 0, 0, 0}, {5, 0, 0, 0}, {1, 0, 0, 0}};
        same(x, never);
        Due.due("the shelf", x.of(0, 6), StoryClasses.NONE);
    }

    private static void same(StoryClasses x, int[][] want) {
        for (int t = 0; t < want.length; t++) {
            for (int k = 0; k < 4; k++) Due.due("of " + t + " " + k, x.of(t, k), want[t][k]);
        }
    }

    private static void latestFirst() {
        StoryClasses x = new StoryClasses();
        int keep = keeper(x);
        int bring = bringer(x);
        x.row(0, 5, 1);
        x.thing(0);
        for (int k = 1; k <= 3; k++) {
            x.put(0, 0, k);
            x.run(keep, 0, 0);
        }
        x.thing(3);
        int take = Due.tell(x, 1, 0, 1, 0, 0, 5, 0, 23, 1, 0, 20, 0, 0);
        Due.gives("one that came since", x, take, 5);
        for (int k = 3; k >= 1; k--) {
            x.run(bring, 0, 0);
            Due.due("the latest first", x.item(0, 0), k);
            Due.due("one that came since stays", x.of(1, 1), 5);
        }
    }

    private static void forgotten() {
        StoryClasses x = new StoryClasses();
        int keep = keeper(x);
        int bring = bringer(x);
        x.row(0, 5, 1);
        x.run(keep, 0, 0);
        x.run(keep, 0, 0);
        x.put(0, 0, 5);
        Due.due("two go", x.forget(), 2);
        Due.due("none go", x.forget(), 0);
        Due.due("none kept", x.count(2, 0), 0);
        Due.gives("none to bring", x, bring, 0);
        Due.due("as it was", x.item(0, 0), 5);
        Due.gives("kept anew", x, keep, 1);
    }
}
