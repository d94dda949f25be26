/** Promises 19 and 20: count, forget. */
final class CountTest {
    private static final int BAD = StoryClasses.BAD;
    private static final int MAX = Integer.MAX_VALUE, MIN = Integer.MIN_VALUE;

    private CountTest() { }

    public static void main(String[] args) {
        count();
        countOfRoutine();
        countBad();
        forget();
        Due.end();
    }

    private static void count() {
        Due.says("Promise 19", "How many: 0 THINGS, 1 ROUTINES, 2 KEPT, 3 numbers of THE OUTPUT;");
        StoryClasses x = new StoryClasses();
        for (int k = 0; k < 12; k++) {
            Due.due("things", x.count(0, 0), k);
            x.thing(0);
            Due.due("routines", x.count(1, 0), k);
            x.routine(1);
        }
        Due.due("things", x.count(0, 0), 12);
        Due.due("routines", x.count(1, 0), 12);
        Due.more(x, 0, "27; 26; 27; 26; 0 0; 20");
        Due.more(x, 1, "28; 26; 0 0; 20");
        Due.due("none kept", x.count(2, 0), 0);
        Due.due("none put out", x.count(3, 0), 0);
        x.run(0, 0, 0);
        Due.due("two kept", x.count(2, 0), 2);
        Due.due("two put out", x.count(3, 0), 2);
        x.run(1, 0, 0);
        Due.due("one kept", x.count(2, 0), 1);
        Due.due("one put out", x.count(3, 0), 1);
        int[] want = {12, 12, 1, 1};
        for (int what = 0; what < 4; what++) {
            for (int k : new int[] {MIN, -1, 12, MAX}) {
                Due.due("no routine is asked for", x.count(what, k), want[what]);
            }
        }
    }

    private static void countOfRoutine() {
        Due.says("Promise 19", "of ROUTINE k: 4 LOCALS, 5 OPS, 6 GUARDS.");
        StoryClasses x = new StoryClasses();
        for (int k = 0; k < 12; k++) {
            x.routine(1 + k % 6);
            for (int i = 0; i < 3 * k - 2; i++) x.op(k, 0, 0, 0);
            for (int i = 0; i < k % 5; i++) x.guard(k, 0, 1, 0, 0);
        }
        for (int k = 0; k < 12; k++) {
            Due.due("locals", x.count(4, k), 1 + k % 6);
            Due.due("ops", x.count(5, k), k == 0 ? 0 : Math.min(30, 3 * k - 2));
            Due.due("guards", x.count(6, k), k % 5);
        }
    }

    private static void countBad() {
        Due.says("Promise 19", "BAD.");
        StoryClasses x = new StoryClasses();
        Due.due("none yet", x.count(4, 0), BAD);
        x.routine(1);
        for (int what : new int[] {MIN, -1, 7, MAX}) {
            for (int k : new int[] {-1, 0, 1}) Due.due("what " + what, x.count(what, k), BAD);
        }
        for (int what = 4; what < 7; what++) {
            for (int k : new int[] {MIN, -1, 1, 12, MAX}) {
                Due.due("routine " + k, x.count(what, k), BAD);
            }
        }
    }

    private static void forget() {
        Due.says("Promise 20", "All that is KEPT goes: how many.");
        StoryClasses x = new StoryClasses();
        int keep = Due.tell(x, 1, "27; 20");
        int bring = Due.tell(x, 1, "28; 20");
        x.row(0, 5, 1);
        x.thing(0);
        Due.due("none", x.forget(), 0);
        for (int n = 1; n <= 3; n++) {
            for (int k = 1; k <= n; k++) {
                x.put(0, 0, k);
                Due.gives("keep", x, keep, k);
            }
            x.put(0, 0, 9);
            String before = Seen.world(x);
            Due.due("how many", x.forget(), n);
            Due.holds("nothing else changes",
                Seen.world(x).equals(before.replace("kept " + n, "kept 0")));
            Due.due("none is kept", x.count(2, 0), 0);
            Due.due("none goes", x.forget(), 0);
        }
        Due.gives("none to bring back", x, bring, 0);
        Due.due("as it was", x.item(0, 0), 9);
        Due.gives("kept anew", x, keep, 1);
        x.put(0, 0, 5);
        Due.gives("brought back", x, bring, 1);
        Due.due("the one kept anew", x.item(0, 0), 9);
        Due.due("after that none", x.forget(), 0);
    }
}
