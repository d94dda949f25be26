import java.util.Arrays;
import java.util.Random;

/** Random calls (always the same ones), whose answers are compared with those of Model. */
final class ModelTest {
    private static final int OBJECTS = 6000, CALLS = 512;
    private static final long[] EDGES = {Long.MAX_VALUE, Long.MIN_VALUE, Integer.MAX_VALUE,
        Integer.MIN_VALUE, 1L << 32, 16777217, (1L << 53) + 1, 65536, 128, -129, 60};

    private final Random random;
    private final StringBuilder story = new StringBuilder();
    private StoryClasses x = new StoryClasses();
    private Model model = new Model();
    private int calls;
    private boolean differed;
    private final long[] endCodes;
    private final long[] endings;
    private final long[] sums;

    private ModelTest(long seed, long[] endCodes, long[] endings, long[] sums) {
        random = new Random(seed);
        this.endCodes = endCodes;
        this.endings = endings;
        this.sums = sums;
    }

    public static void main(String[] args) {
        long[] endCodes = new long[13];
        long[] endings = new long[3];
        long[] sums = new long[8];
        for (int seed = 0; seed < OBJECTS; seed++) {
            ModelTest test = new ModelTest(seed, endCodes, endings, sums);
            test.goThrough();
            Due.holds("object " + seed + " answers as the model", !test.differed);
            if (test.differed) break;
        }
        for (int code = 1; code < 13; code++) {
            Due.holds("runs ended by fault " + code, endCodes[code] > 20);
        }
        System.out.println("by code " + Arrays.toString(endCodes) + ", by end "
            + Arrays.toString(endings) + ", told in all " + Arrays.toString(sums));
        for (int what = 3; what < 8; what++) Due.holds("runs tell " + what, sums[what] > 1000);
        for (int how = 0; how < 3; how++) Due.holds("runs ended by " + how, endings[how] > 100);
        Due.end();
    }

    private int below(int n) { return random.nextInt(n); }

    private boolean oneIn(int n) { return random.nextInt(n) == 0; }

    private long number() {
        if (oneIn(6)) return EDGES[below(EDGES.length)];
        return oneIn(5) ? -1 - below(4) : below(14);
    }

    /** A number from 0 to n - 1, or now and then one beside that. */
    private int about(int n) { return oneIn(40) ? (oneIn(2) ? -1 : n) : below(n); }

    private long ask(String name, long... v) {
        if (differed || calls == CALLS) return 0;
        calls++;
        long got = real(name, v);
        long want = model.call(name, v);
        story.append(name).append(Arrays.toString(v)).append(" = ").append(got).append('\n');
        if (got != want) {
            differed = true;
            System.out.println(story);
            Due.due("the last of these", got, want);
        }
        return got;
    }

    private long real(String name, long... v) {
        int a = v.length > 0 ? (int) v[0] : 0, b = v.length > 1 ? (int) v[1] : 0;
        int c = v.length > 2 ? (int) v[2] : 0, d = v.length > 3 ? (int) v[3] : 0;
        switch (name) {
            case "row": return x.row(a, b, c);
            case "miss": return x.miss(a);
            case "share": return x.share(a, b);
            case "put": return x.put(a, b, v[2]);
            case "item": return x.item(a, b);
            case "about": return x.about(a, b);
            case "thing": return x.thing(a);
            case "of": return x.of(a, b);
            case "routine": return x.routine(a);
            case "op": return x.op(a, b, c, d);
            case "guard": return x.guard(a, b, c, d, (int) v[4]);
            case "last": return x.last(a, b);
            case "run": return x.run(a, v[1], v[2]);
            case "result": return x.result();
            case "told": return x.told(a);
            case "number": return x.number();
            case "output": return x.output(a);
            case "count": return x.count(a, b);
            default: return x.forget();
        }
    }

    private void goThrough() {
        int things = below(7), rows = below(7), routines = 1 + below(5);
        for (int k = 0; k < things; k++) ask("thing", about(6));
        for (int k = 0; k < rows; k++) rowCall();
        for (int k = 0; k < routines; k++) newRoutine();
        while (calls < CALLS && !differed) {
            switch (below(12)) {
                case 0: case 1: rowCall(); break;
                case 2: ask("thing", about(6)); break;
                case 3: moreOps((int) ask("count", 1, 0) - 1); break;
                case 4: newRoutine(); break;
                case 5: if (oneIn(4)) ask("forget"); break;
                case 6: look(); break;
                default: runAndLook();
            }
        }
    }

    private void rowCall() {
        int r = about(6);
        switch (below(4)) {
            case 0: ask("row", r, about(8), oneIn(8) ? about(13) + 1 : about(5)); break;
            case 1: ask("put", r, about(5), number()); break;
            case 2: ask("share", r, about(6)); break;
            default: if (oneIn(3)) ask("miss", r); else ask("put", r, below(3), number());
        }
    }

    private void newRoutine() {
        int routine = (int) ask("routine", oneIn(20) ? 7 * below(2) : 1 + below(6));
        if (routine < 0) return;
        if (!oneIn(20)) moreOps(routine);
        for (int k = below(4); k > 0; k--) {
            int from = about(12);
            ask("guard", routine, from, from + below(15), oneIn(2) ? 0 : about(13), about(14));
        }
        if (oneIn(2)) ask("last", routine, oneIn(5) ? -1 : about(16));
    }

    private void moreOps(int routine) {
        for (int k = 3 + below(14); k > 0; k--) tellOne(routine);
    }

    /** Mostly lays what the OP after it takes, so that OPS get beyond the PILE's faults. */
    private void tellOne(int routine) {
        int op = oneIn(60) ? 30 : below(30);
        int a = 0, b = 0, takes = 1;
        switch (op) {
            case 1: case 2: a = about(2); break;
            case 10: case 11: a = about(16); break;
            case 12: case 13: case 15: case 17: case 18:
                a = about(6); b = about(8); takes = op == 13 || op == 18 ? 2 : 1; break;
            case 14: case 16: a = about(6); break;
            case 29: a = about(6); b = about(6); break;
            case 19:
                a = oneIn(8) ? about(12) : about(4); b = oneIn(30) ? about(7) : below(3);
                takes = b; break;
            case 23: a = about(9); takes = 2; break;
            case 24: takes = 3; break;
            case 25: takes = 2; break;
            default: if (op >= 3 && op <= 9) takes = 2;
        }
        if (op == 0 || op == 1 || op == 10 || op == 14 || op == 16 || op >= 27) takes = 0;
        boolean small = op >= 12 && op <= 18 || op >= 23 && op <= 25;
        if (!oneIn(6)) for (int k = 0; k < takes; k++) lay(routine, small && !oneIn(10));
        ask("op", routine, op, a, b);
    }

    private void lay(int routine, boolean small) {
        if (small) ask("op", routine, 0, below(5) - (oneIn(8) ? 1 : 0), 0);
        else if (oneIn(3)) ask("op", routine, 1, below(2), 0);
        else ask("op", routine, 0, (int) number(), 0);
    }

    private void runAndLook() {
        int how = (int) ask("run", about(Math.max(1, x.count(1, 0))), number(), number());
        if (how >= 0 && !differed) {
            endings[how]++;
            endCodes[x.told(0)]++;
            for (int what = 3; what < 8; what++) sums[what] += x.told(what);
        }
        ask("result");
        ask("number");
        for (int what = 0; what < 8; what++) ask("told", what);
        for (int k = 0; k < 3; k++) ask("output", about(5));
        look();
    }

    private void look() {
        for (int k = 0; k < 4; k++) ask("item", about(6), about(4));
        for (int k = 0; k < 3; k++) ask("about", about(6), about(3));
        for (int k = 0; k < 5; k++) ask("of", about(6), about(9));
        ask("count", about(7), about(4));
        ask("count", 2, 0);
    }
}
