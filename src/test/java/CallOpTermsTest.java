/** Terms 3, OPS 19 to 28: calls, MESSAGES, SHELVES, THE OUTPUT, and what is KEPT. */
final class CallOpTermsTest {
    private static final int NONE = StoryClasses.NONE;
    private static final int NOTHING = 1, INDEX = 2, CAST = 3, STORE = 4, ARGUMENT = 7, PILE = 8,
        DEEP = 9, BEHIND = 10, OWN = 11, DUMB = 12;
    private static final long MOST = Long.MAX_VALUE, LEAST = Long.MIN_VALUE;

    private CallOpTermsTest() { }

    public static void main(String[] args) {
        callsWithNumbers();
        callFaults();
        returns();
        fails();
        leaves();
        messages();
        shelves();
        looks();
        outputs();
        keeps();
        keepRefuses();
        bringsBackRows();
        bringsBackThings();
        thingsThatCameSince();
        noneKept();
        Due.end();
    }

    /** A ROUTINE that RETURNS its LOCALS as the digits of one number, LOCAL 0 being the first. */
    private static int digits(StoryClasses x, int locals) {
        StringBuilder ops = new StringBuilder("0 0");
        for (int k = 0; k < locals; k++) ops.append("; 0 10; 5; 1 ").append(k).append("; 3");
        return Due.tell(x, locals, ops + "; 20");
    }

    private static void callsWithNumbers() {
        Due.says("Terms 3",
            "19 takes b numbers and calls ROUTINE a: they are its LOCALS 0, 1, .. (others "
            + "are 0); what it RETURNS is laid.");
        StoryClasses x = new StoryClasses();
        int six = digits(x, 6);
        long[] want = {0, 300000, 230000, 123000};
        for (int b = 0; b < 4; b++) {
            int caller = Due.tell(x, 1, "0 1; 0 2; 0 3; 19 " + six + " " + b + "; 20");
            Due.gives("with " + b, x, caller, want[b]);
        }
        Due.gives(x, "0 1; 0 2; 0 3; 0 4; 0 5; 0 6; 19 " + six + " 6; 20", 123456);
        Due.gives(x, "0 8; 0 2; 0 3; 19 " + six + " 2; 4; 20", 8 - 230000);
        Due.gives(x, "0 9; 2 0; 0 4; 19 " + six + " 1; 2 1; 1 0; 20", 9);
        int one = digits(x, 1);
        Due.gives(x, "0 7; 19 " + one + " 1; 19 " + one + " 1; 20", 7);
        // A ROUTINE that was open before, with other LOCALS, leaves nothing in them.
        Due.gives(x, "0 1; 0 2; 0 3; 0 4; 0 5; 0 6; 19 " + six + " 6; 26; "
            + "0 9; 19 " + six + " 1; 20", 900000);
    }

    private static void callFaults() {
        Due.says("Terms 3", "PILE (too few; or b is 0 and there are 8),");
        StoryClasses x = new StoryClasses();
        int one = Due.tell(x, 1, "0 7; 20");
        int empty = x.routine(1);
        for (int b = 1; b < 7; b++) {
            StoryClasses y = new StoryClasses();
            Due.tell(y, 6, "0 7; 20");
            String few = b == 1 ? "10 1" : Due.times(b - 1, "0 1");
            Due.faults(y, few + "; 19 0 " + b, PILE, b == 1 ? 1 : b - 1);
            Due.gives(y, Due.times(b, "0 1") + "; 19 0 " + b + "; 20", 7);
        }
        Due.faults(x, "19 " + empty + " 1", PILE, 0);
        Due.faults(x, Due.times(8, "0 1") + "; 19 " + one + " 0; 20", PILE, 8);
        Due.faults(x, Due.times(8, "0 1") + "; 19 11 0; 20", PILE, 8);
        Due.due("nothing was opened", x.told(7), 1);
        Due.gives(x, Due.times(7, "0 1") + "; 19 " + one + " 0; 20", 7);
        Due.gives(x, Due.times(8, "0 1") + "; 19 " + one + " 1; 20", 7);
        Due.says("Terms 3", "NOTHING (no such ROUTINE, or it has no OPS),");
        Due.faults(x, "19 11 0", NOTHING, 0);
        Due.faults(x, "19 " + empty + " 0", NOTHING, 0);
        Due.faults(x, "0 1; 0 1; 19 " + empty + " 2", NOTHING, 2);
        Due.due("nothing was opened", x.told(7), 1);
        Due.more(x, empty, "0 6; 20");
        Due.gives(x, "19 " + empty + " 0; 20", 6);
        Due.says("Terms 3", "ARGUMENT (b is above its LOCALS),");
        for (int locals = 1; locals < 6; locals++) {
            StoryClasses y = new StoryClasses();
            Due.tell(y, locals, "0 7; 20");
            String laid = Due.times(6, "0 1");
            Due.gives(y, laid + "; 19 0 " + locals + "; 20", 7);
            Due.faults(y, laid + "; 19 0 " + (locals + 1) + "; 20", ARGUMENT, 6);
            Due.faults(y, laid + "; 19 0 6; 20", ARGUMENT, 6);
            Due.due("nothing was opened", y.told(7), 1);
        }
        Due.says("Terms 3", "DEEP (12 are open).");
        StoryClasses y = new StoryClasses();
        // LOCAL 0 calls more of itself.
        int self = Due.tell(y, 1, "1 0; 11 8; 1 0; 0 1; 4; 19 0 1; 20; 22; 0 3; 20");
        Due.due("twelve are open", y.run(self, 11, 0), 0);
        Due.due("twelve are open", y.told(7), 12);
        Due.due("what the last returned", y.result(), 3);
        Due.due("thirteen would be", y.run(self, 12, 0), 1);
        Due.told("thirteen would be", y, DEEP, self, 5, 72, 1, 0, 0, 12);
        Due.faults(y, "19 1 0", DEEP, 0);
        // In the twelfth the others come first.
        int other = Due.tell(y, 1, "1 0; 11 8; 1 0; 0 1; 4; 19 2 1; 20; 22; 0 1; 0 1; 19 0 2; 20");
        Due.due("run", y.run(other, 11, 0), 1);
        Due.told("ARGUMENT before DEEP", y, ARGUMENT, other, 10);
    }

    private static void returns() {
        Due.says("Terms 3", "20 RETURNS x.");
        StoryClasses x = new StoryClasses();
        Due.tell(x, 1, "0 5; 1 0; 20");
        for (long v : new long[] {0, 1, -1, MOST, LEAST}) {
            Due.due("run", x.run(0, v, 0), 0);
            Due.due("returned", x.result(), v);
        }
        Due.tell(x, 1, "1 0; 19 0 1; 20");
        Due.due("run", x.run(1, LEAST, 0), 0);
        Due.due("returned by both", x.result(), LEAST);
        Due.faults(x, "20", PILE, 0);
    }

    private static void fails() {
        Due.says("Terms 3", "21 of x: OWN with x.");
        StoryClasses x = new StoryClasses();
        Due.tell(x, 1, "0 5; 1 0; 21; 0 1; 20");
        for (long v : new long[] {0, 6, -1, MOST, LEAST}) {
            Due.due("run", x.run(0, v, 0), 1);
            Due.due("code", x.told(0), OWN);
            Due.due("place", x.told(2), 2);
            Due.due("number", x.number(), v);
        }
    }

    private static void leaves() {
        Due.says("Terms 3", "22 LEAVES.");
        StoryClasses x = new StoryClasses();
        Due.faults(x, "0 4; 22; 0 1; 20", BEHIND, 1);
        int kept = Due.tell(x, 1, "0 4; 20; 0 9; 22");
        x.last(kept, 2);
        Due.gives("what was put aside", x, kept, 4);
    }

    /** THINGS 0 to 5 of the KINDS 0 to 5. */
    private static StoryClasses six() {
        StoryClasses x = new StoryClasses();
        for (int kind = 0; kind < 6; kind++) x.thing(kind);
        return x;
    }

    private static void messages() {
        Due.says("Terms 3",
            "23 of t: MESSAGE a goes to THING t (1, 6, 7, 8: of t, n): NOTHING (no such "
            + "THING), what the MESSAGE tells; the answer is laid.");
        for (int message = 0; message < 9; message++) {
            StoryClasses x = six();
            boolean two = message == 1 || message >= 6;
            String laid = "0 8; 1 0; " + (two ? "0 3; " : "");
            int routine = Due.tell(x, 1, laid + "23 " + message + "; 20");
            for (long t : new long[] {-1, 6, 1L << 32, MOST, LEAST}) {
                Due.due("run", x.run(routine, t, 0), 1);
                Due.due("message " + message + " to " + t, x.told(0), NOTHING);
            }
            int kind = message == 2 || message == 8 ? 5 : 1;
            Due.due("run", x.run(routine, kind, 0), 0);
            Due.due("message " + message, x.result(), message == 0 ? 4 : message == 1 ? 3 : 0);
        }
        StoryClasses y = six();
        Due.faults(y, "0 0; 23 2", CAST, 1);
        Due.faults(y, "0 0; 23 3", DUMB, 1);
        Due.faults(y, "0 0; 23 5", CAST, 1);
        Due.faults(y, "0 1; 0 10; 23 1", OWN, 2);
        Due.gives(y, Due.times(7, "0 1") + "; 0 0; 23 0; 20", 2);
    }

    private static int shelve(StoryClasses x, long s, long i, int t) {
        x.run(Due.tell(x, 2, "1 0; 1 1; 0 " + t + "; 24; 0 1; 20"), s, i);
        return x.told(0);
    }

    private static void shelves() {
        Due.says("Terms 3",
            "24 of s, i, t: place i of the SHELF of THING s becomes THING t (-1: empty): "
            + "NOTHING (of s; of t), INDEX, STORE (it has no place for such).");
        StoryClasses x = six();
        Due.due("the first place", shelve(x, 0, 0, 5), 0);
        Due.due("the last place", shelve(x, 0, 3, 4), 0);
        Due.due("the first place", x.of(0, 5), 5);
        Due.due("the last place", x.of(0, 8), 4);
        Due.due("another one", shelve(x, 0, 3, 0), 0);
        Due.due("another one, itself", x.of(0, 8), 0);
        Due.due("empty", shelve(x, 0, 3, -1), 0);
        Due.due("empty", x.of(0, 8), NONE);
        Due.due("empty where it was", shelve(x, 1, 2, -1), 0);
        Due.due("the first place stays", x.of(0, 5), 5);
        StoryClasses y = six();
        Due.due("s is none", shelve(y, 6, 0, 0), NOTHING);
        Due.due("s is -1", shelve(y, -1, 0, 0), NOTHING);
        Due.due("s is far above", shelve(y, 1L << 32, 0, 0), NOTHING);
        Due.due("s is none, nor is i", shelve(y, 6, 9, -1), NOTHING);
        Due.due("t is none", shelve(y, 1, 0, 6), NOTHING);
        Due.due("t is -2", shelve(y, 1, 0, -2), NOTHING);
        Due.due("t is none, nor is i", shelve(y, 1, 3, 6), NOTHING);
        StoryClasses z = six();
        Due.due("i is above", shelve(z, 1, 3, 1), INDEX);
        Due.due("i is below", shelve(z, 1, -1, 1), INDEX);
        Due.due("i is far above", shelve(z, 1, 1L << 32, 1), INDEX);
        Due.due("i is above, empty", shelve(z, 4, 2, -1), INDEX);
        Due.due("INDEX before STORE", shelve(z, 1, 3, 0), INDEX);
        Due.due("no place for such", shelve(z, 1, 2, 0), STORE);
        Due.due("no place for such", shelve(z, 4, 1, 3), STORE);
        int far = Due.tell(z, 2, "0 0; 0 0; 1 0; 24");
        z.run(far, 1L << 32, 0);
        Due.due("t is far above", z.told(0), NOTHING);
        z.run(far, (1L << 32) - 1, 0);
        Due.due("t is no -1 as a long", z.told(0), NOTHING);
        for (int t = 0; t < 6; t++) Due.due("as it was", z.of(t, 5), NONE);
    }

    private static void looks() {
        Due.says("Terms 3", "25 of s, i: lays which THING lies there (-1): NOTHING, INDEX.");
        StoryClasses x = six();
        int look = Due.tell(x, 2, "1 0; 1 1; 25; 20");
        Due.due("shelve", shelve(x, 3, 2, 2), 0);
        Due.due("run", x.run(look, 3, 2), 0);
        Due.due("it lies there", x.result(), 2);
        Due.due("run", x.run(look, 3, 1), 0);
        Due.due("empty", x.result(), -1);
        long[][] wrong = {{6, 0}, {-1, 0}, {1L << 32, 0}, {6, 9}, {LEAST, -1}};
        for (long[] v : wrong) {
            Due.due("run", x.run(look, v[0], v[1]), 1);
            Due.due("no such thing", x.told(0), NOTHING);
        }
        long[][] out = {{0, 4}, {0, -1}, {1, 3}, {2, 3}, {3, 3}, {4, 2}, {5, 2}, {0, 1L << 32},
            {0, MOST}};
        for (long[] v : out) {
            Due.due("run", x.run(look, v[0], v[1]), 1);
            Due.due("no such place", x.told(0), INDEX);
        }
    }

    private static void outputs() {
        Due.says("Terms 3", "26 of x: to THE OUTPUT (60; others are lost).");
        StoryClasses x = new StoryClasses();
        StringBuilder ops = new StringBuilder();
        for (int k = 1; k <= 14; k++) ops.append("0 ").append(k).append("; 26; ");
        int fourteen = Due.tell(x, 1, ops + "0 0; 20");
        String calls = Due.times(4, "19 " + fourteen + " 0");
        Due.gives(x, calls + "; 0 57; 26; 0 58; 26; 0 59; 26; 0 1; 20", 1);
        Due.due("59 of them", x.count(3, 0), 59);
        Due.due("the 59th", x.output(58), 59);
        Due.due("no 60th", x.output(59), 0);
        Due.gives(x, calls + "; 0 57; 26; 0 58; 26; 0 59; 26; 0 60; 26; 0 1; 20", 1);
        Due.due("60 of them", x.count(3, 0), 60);
        Due.due("the 60th", x.output(59), 60);
        Due.gives(x, calls + "; 19 " + fourteen + " 0; 20", 0);
        Due.due("70 would be", x.count(3, 0), 60);
        for (int i = 0; i < 60; i++) Due.due("number " + i, x.output(i), i % 14 + 1);
        Due.due("the 61st", x.output(60), 0);
        int one = Due.tell(x, 1, "1 0; 26; 0 0; 20");
        for (long v : new long[] {0, -1, MOST, LEAST}) {
            Due.due("run", x.run(one, v, 0), 0);
            Due.due("one of them", x.count(3, 0), 1);
            Due.due("a long", x.output(0), v);
        }
    }

    private static void keeps() {
        Due.says("Terms 3",
            "27 KEEPS all ROWS (one in several places as one), COUNT, MARKS and SHELVES of "
            + "all THINGS:");
        StoryClasses x = new StoryClasses();
        for (int t = 0; t < 12; t++) x.thing(t % 6);
        for (int r = 0; r < 12; r++) x.row(r, r % 8, r);
        x.share(3, 5);
        x.put(11, 10, 1234);
        int change = Due.tell(x, 2, "1 0; 1 1; 23 1; 26; 1 0; 1 1; 23 6; 26; 1 0; 0 1; 1 0; 24; "
            + "0 1; 20");
        int crate = Due.tell(x, 2, "1 0; 1 1; 23 7; 20");
        int lantern = Due.tell(x, 2, "1 0; 1 1; 23 8; 20");
        for (int t = 0; t < 12; t++) x.run(change, t, t - 4);
        x.run(crate, 7, 70);
        x.run(lantern, 11, 110);
        String before = Seen.world(x);
        Due.gives(x, "27; 20", 1);
        Due.holds("keeping changes nothing else",
            Seen.world(x).equals(before.replace("kept 0", "kept 1")));
        for (int t = 0; t < 12; t++) x.run(change, t, t - 7);
        x.run(crate, 7, 71);
        x.run(lantern, 11, 111);
        Due.tell(x, 1, "0 6; 0 1; 0 -1; 24; 0 1; 20");
        x.run(x.count(1, 0) - 1, 0, 0);
        for (int r = 0; r < 12; r++) x.row(r, 7 - r % 8, 12 - r);
        x.share(0, 1);
        Due.holds("changed", !Seen.world(x).equals(before));
        Due.gives(x, "28; 20", 1);
        Due.holds("as it was", Seen.world(x).equals(before));
    }

    private static void keepRefuses() {
        Due.says("Terms 3",
            "ARGUMENT (3 are KEPT, or it would be the 7th KEEPING in this RUN); lays how "
            + "many are KEPT.");
        StoryClasses x = new StoryClasses();
        int keep = Due.tell(x, 1, "27; 20");
        for (int k = 1; k <= 3; k++) Due.gives("how many", x, keep, k);
        Due.faults("3 are kept", x, keep, ARGUMENT, 0);
        Due.due("3 are kept", x.count(2, 0), 3);
        x.forget();
        Due.gives("kept anew", x, keep, 1);
        x.forget();
        // Six KEEPINGS, each brought back.
        int six = Due.tell(x, 1, Due.times(6, "27; 2 0; 28; 2 0") + "; 0 1; 20");
        Due.gives("six", x, six, 1);
        int seven = Due.tell(x, 1, Due.times(6, "27; 2 0; 28; 2 0") + "; 27; 20");
        Due.faults("the 7th", x, seven, ARGUMENT, 24);
        Due.due("none is kept", x.count(2, 0), 0);
        Due.gives("six in the next run", x, six, 1);
        // One whose number finds no room on the PILE was a KEEPING all the same.
        int full = Due.tell(x, 1, Due.times(8, "0 1") + "; 27; 2 0; 2 0; 28; 2 0; "
            + Due.times(5, "27; 26; 28") + "; 27");
        x.guard(full, 8, 9, PILE, 9);
        Due.faults("the 7th", x, full, ARGUMENT, 28);
    }

    private static void bringsBackRows() {
        Due.says("Terms 3", "28 all that becomes again as in the latest one KEPT, which goes");
        StoryClasses x = new StoryClasses();
        int keep = Due.tell(x, 1, "27; 20");
        int bring = Due.tell(x, 1, "28; 20");
        x.row(0, 5, 2);
        x.share(4, 0);
        x.row(6, 6, 1);
        for (int k = 1; k <= 3; k++) {
            x.put(0, 1, k);
            Due.gives("keep", x, keep, k);
        }
        x.put(4, 1, 9);
        x.row(4, 1, 1);
        x.miss(6);
        x.row(7, 7, 7);
        for (int k = 3; k >= 1; k--) {
            Due.gives("bring back", x, bring, 1);
            Due.due("the latest", x.item(0, 1), k);
            Due.due("one", x.about(4, 2), 0);
            Due.due("its lane", x.about(6, 1), 6);
            Due.due("missing", x.about(7, 0), NONE);
            Due.due("it goes", x.count(2, 0), k - 1);
            x.put(4, 1, 100);
            Due.due("one still", x.item(0, 1), 100);
        }
        // What is KEPT is no ROW: a later KEEPING and a bringing back leave it alone.
        x.put(0, 1, 1);
        Due.gives("keep", x, keep, 1);
        x.put(0, 1, 2);
        Due.gives("keep", x, keep, 2);
        Due.gives("bring back", x, bring, 1);
        x.put(0, 1, 3);
        Due.gives("bring back", x, bring, 1);
        Due.due("the first", x.item(0, 1), 1);
    }

    private static void bringsBackThings() {
        Due.says("Terms 3", "28 all that becomes again as in the latest one KEPT, which goes");
        StoryClasses x = six();
        int keep = Due.tell(x, 1, "27; 20");
        int bring = Due.tell(x, 1, "28; 20");
        int take = Due.tell(x, 2, "1 0; 1 1; 23 1; 20");
        int mark = Due.tell(x, 2, "1 0; 1 1; 23 6; 20");
        int crate = Due.tell(x, 2, "1 0; 1 1; 23 7; 20");
        int lantern = Due.tell(x, 2, "1 0; 1 1; 23 8; 20");
        int fill = Due.tell(x, 2, "1 0; 0 1; 1 1; 24; 0 1; 20");
        for (int k = 1; k <= 3; k++) {
            for (int t = 0; t < 6; t++) x.run(take, t, 1);
            for (int t = 0; t < 6; t++) x.run(mark, t, 10 * k + t);
            for (int t = 0; t < 6; t++) x.run(crate, t, 20 * k + t);
            x.run(lantern, 5, 30 * k);
            for (int t = 0; t < 6; t++) x.run(fill, t, k == 2 ? -1 : t);
            Due.gives("keep", x, keep, k);
        }
        for (int t = 0; t < 6; t++) x.run(take, t, 2);
        for (int t = 0; t < 6; t++) x.run(mark, t, 5);
        for (int k = 3; k >= 1; k--) {
            Due.gives("bring back", x, bring, 1);
            for (int t = 0; t < 6; t++) {
                int own = t == 0 || t == 4 ? 0 : t == 5 ? 30 * k : 20 * k + t;
                Due.due("kind", x.of(t, 0), t);
                Due.due("count", x.of(t, 1), k);
                Due.due("mark", x.of(t, 2), 10 * k + t);
                Due.due("own mark", x.of(t, 3), own);
                Due.due("shelf", x.of(t, 6), k == 2 ? NONE : t);
            }
        }
    }

    private static void thingsThatCameSince() {
        Due.says("Terms 3", "(THINGS that came since stay as they are):");
        StoryClasses x = new StoryClasses();
        int keep = Due.tell(x, 1, "27; 20");
        int bring = Due.tell(x, 1, "28; 20");
        int take = Due.tell(x, 2, "1 0; 1 1; 23 1; 20");
        int fill = Due.tell(x, 2, "1 0; 0 0; 1 1; 24; 0 1; 20");
        Due.gives("keep none", x, keep, 1);
        x.thing(0);
        x.run(take, 0, 5);
        Due.gives("keep one", x, keep, 2);
        x.thing(4);
        x.run(take, 0, 5);
        x.run(take, 1, 6);
        x.run(fill, 0, 1);
        x.run(fill, 1, 1);
        Due.gives("bring back one", x, bring, 1);
        Due.due("the first as it was", x.of(0, 1), 5);
        Due.due("the first as it was", x.of(0, 5), NONE);
        Due.due("the second stays", x.of(1, 1), 6);
        Due.due("the second stays", x.of(1, 2), 6);
        Due.due("the second stays", x.of(1, 5), 1);
        Due.gives("bring back none", x, bring, 1);
        Due.due("the first stays", x.of(0, 1), 5);
        Due.due("two things", x.count(0, 0), 2);
        Due.due("the second stays", x.of(1, 0), 4);
    }

    private static void noneKept() {
        Due.says("Terms 3", "lays 1; 0, if none is KEPT.");
        StoryClasses x = new StoryClasses();
        x.row(0, 5, 1);
        x.put(0, 0, 6);
        Due.gives(x, "28; 20", 0);
        Due.due("as it was", x.item(0, 0), 6);
        Due.gives(x, "27; 26; 28; 26; 28; 20", 0);
        Due.due("kept", x.output(0), 1);
        Due.due("brought back", x.output(1), 1);
        Due.due("as it was", x.item(0, 0), 6);
    }
}
