/** Promises 14 to 18: run, result, told, number, output. */
final class RunTest {
    private static final int BAD = StoryClasses.BAD, NONE = StoryClasses.NONE;
    private static final int PILE = 8, BEHIND = 10, OWN = 11;
    private static final int MAX = Integer.MAX_VALUE, MIN = Integer.MIN_VALUE;
    private static final long MOST = Long.MAX_VALUE, LEAST = Long.MIN_VALUE;

    private RunTest() { }

    public static void main(String[] args) {
        run();
        runOutput();
        runBad();
        result();
        toldOfTheFault();
        toldOfTheRun();
        toldBeforeAny();
        toldBad();
        number();
        output();
        Due.end();
    }

    /** ROUTINE 0 RETURNS LOCAL 0, 1 throws it, 2 is SPENT, 3 has no OPS; all but 3 put it out. */
    private static StoryClasses three() {
        StoryClasses x = new StoryClasses();
        Due.tell(x, 1, "1 0; 26; 1 0; 20");
        Due.tell(x, 1, "1 0; 26; 1 0; 21");
        Due.tell(x, 1, "1 0; 26; 10 2");
        x.routine(6);
        return x;
    }

    private static void run() {
        Due.says("Promise 14", "A RUN: 0 it ENDED by a RETURN, 1 by a FAULT, 2 it is SPENT.");
        StoryClasses x = three();
        for (int k = 0; k < 3; k++) Due.due("routine " + k, x.run(k, 7, 8), k);
        for (int k = 2; k >= 0; k--) Due.due("routine " + k, x.run(k, MOST, LEAST), k);
        StoryClasses y = new StoryClasses();
        for (int k = 0; k < 11; k++) y.routine(1);
        Due.tell(y, 1, "0 1; 20");
        Due.due("the last routine", y.run(11, 0, 0), 0);
    }

    private static void runOutput() {
        Due.says("Promise 14", "(THE OUTPUT is empty as it begins.)");
        StoryClasses x = three();
        int silent = Due.tell(x, 1, "0 0; 20");
        for (int k = 0; k < 3; k++) {
            x.run(k, 7, 8);
            Due.due("one number", x.count(3, 0), 1);
            Due.due("one number", x.output(0), 7);
            x.run(k, 9, 8);
            Due.due("one number again", x.count(3, 0), 1);
            Due.due("another one", x.output(0), 9);
            x.run(silent, 0, 0);
            Due.due("empty", x.count(3, 0), 0);
            Due.due("empty", x.output(0), 0);
        }
    }

    private static void runBad() {
        Due.says("Promise 14", "BAD: no such ROUTINE, or it has no OPS.");
        StoryClasses x = three();
        x.run(1, 9, 0);
        for (int k : new int[] {MIN, -1, 3, 4, 12, MAX}) {
            Due.due("routine " + k, x.run(k, 5, 6), BAD);
            Due.told("as before", x, OWN, 1, 3, 4, 1, 0, 0, 1);
            Due.due("as before: number", x.number(), 9);
            Due.due("as before: output", x.output(0), 9);
        }
        Due.more(x, 3, "0 1; 20");
        Due.due("now it has", x.run(3, 0, 0), 0);
    }

    private static void result() {
        Due.says("Promise 15", "What the latest RUN RETURNED;");
        StoryClasses x = three();
        for (long v : new long[] {5, -1, MOST, LEAST}) {
            x.run(0, v, 0);
            Due.due("returned", x.result(), v);
            Due.due("asked again", x.result(), v);
        }
        x.run(3, 0, 0);
        Due.due("a refused run is none", x.result(), LEAST);
        Due.says("Promise 15", "0: nothing.");
        x.run(1, 5, 0);
        Due.due("by a fault", x.result(), 0);
        x.run(0, 5, 0);
        x.run(2, 5, 0);
        Due.due("spent", x.result(), 0);
        Due.due("before any", new StoryClasses().result(), 0);
        // Put aside, but a FAULT came in its place.
        int spoilt = Due.tell(x, 1, "0 4; 20; 22; 26");
        x.last(spoilt, 3);
        Due.faults("put aside", x, spoilt, PILE, 3);
        // What was called RETURNED, the RUN did not.
        Due.faults(x, "0 4; 19 0 1", BEHIND, 1);
    }

    private static void toldOfTheFault() {
        Due.says("Promise 16",
            "Of the latest RUN: 0 the CODE of the FAULT by which it ended (0: none),");
        StoryClasses x = three();
        int[] codes = {0, OWN, 0};
        for (int k = 0; k < 3; k++) {
            x.run(1, 3, 0);
            x.run(k, 3, 0);
            Due.due("code of " + k, x.told(0), codes[k]);
        }
        int taken = Due.tell(x, 1, "22; 0 1; 20");
        x.guard(taken, 0, 1, 0, 1);
        Due.due("run", x.run(taken, 0, 0), 0);
        Due.due("one that was taken", x.told(0), 0);
        Due.says("Promise 16", "1 the ROUTINE, 2 the place at which that came first (NONE both),");
        for (int k = 0; k < 3; k++) {
            x.run(1, 3, 0);
            x.run(k, 3, 0);
            Due.due("routine of " + k, x.told(1), k == 1 ? 1 : NONE);
            Due.due("place of " + k, x.told(2), k == 1 ? 3 : NONE);
        }
        int calls = Due.tell(x, 1, "0 1; 0 2; 19 1 1; 20; 22");
        x.last(calls, 4);
        Due.due("run", x.run(calls, 0, 0), 1);
        Due.told("not where it came on, nor where it was left with", x, OWN, 1, 3);
        // The handler throws again: that is another FAULT.
        int again = Due.tell(x, 1, "0 1; 21; 21");
        x.guard(again, 1, 2, 0, 2);
        Due.faults("another one", x, again, OWN, 2);
        Due.due("its number is the code before", x.number(), OWN);
    }

    private static void toldOfTheRun() {
        StoryClasses x = new StoryClasses();
        int inner = Due.tell(x, 1, "0 3; 21; 22");
        x.last(inner, 2);
        int outer = Due.tell(x, 1, "19 " + inner + " 0; 20; 19 " + inner + " 0; 20");
        x.guard(outer, 0, 1, OWN, 2);
        Due.due("run", x.run(outer, 0, 0), 1);
        Due.says("Promise 16", "3 STEPS,");
        Due.due("steps", x.told(3), 8);
        Due.says("Promise 16", "4 FAULTS,");
        Due.due("faults", x.told(4), 2);
        Due.says("Promise 16", "5 how many GUARDS took,");
        Due.due("guards", x.told(5), 1);
        Due.says("Promise 16", "6 how often a LAST BEGAN,");
        Due.due("lasts", x.told(6), 2);
        Due.says("Promise 16", "7 the most ROUTINES that were open.");
        Due.due("open", x.told(7), 2);
        int three = Due.tell(x, 1, "19 3 0; 26; 19 3 0; 20");
        Due.tell(x, 1, "0 1; 20");
        Due.due("run", x.run(three, 0, 0), 0);
        Due.due("two at once", x.told(7), 2);
        int self = Due.tell(x, 1, "19 4 0");
        Due.due("run", x.run(self, 0, 0), 1);
        Due.due("twelve", x.told(7), 12);
        Due.due("run", x.run(3, 0, 0), 0);
        Due.told("anew", x, 0, NONE, NONE, 2, 0, 0, 0, 1);
    }

    private static void toldBeforeAny() {
        Due.says("Promise 16", "0 (1, 2 NONE) before any.");
        StoryClasses x = new StoryClasses();
        Due.told("new", x, 0, NONE, NONE, 0, 0, 0, 0, 0);
        StoryClasses y = three();
        y.run(3, 0, 0);
        Due.told("a refused run is none", y, 0, NONE, NONE, 0, 0, 0, 0, 0);
    }

    private static void toldBad() {
        Due.says("Promise 16", "BAD.");
        StoryClasses x = three();
        for (int k = -1; k < 3; k++) {
            x.run(k, 0, 0);
            for (int what : new int[] {MIN, -1, 8, MAX}) Due.due("told " + what, x.told(what), BAD);
        }
    }

    private static void number() {
        Due.says("Promise 17", "The NUMBER of that FAULT;");
        StoryClasses x = three();
        for (long v : new long[] {5, -1, MOST, LEAST}) {
            x.run(1, v, 0);
            Due.due("thrown", x.number(), v);
        }
        Due.says("Promise 17", "0.");
        Due.faults(x, "26", PILE, 0);
        Due.due("of another", x.number(), 0);
        x.run(1, 5, 0);
        x.run(0, 6, 0);
        Due.due("of none", x.number(), 0);
        x.run(1, 5, 0);
        x.run(2, 6, 0);
        Due.due("spent", x.number(), 0);
        int spent = Due.tell(x, 1, "0 5; 21");
        x.guard(spent, 0, 2, 0, 0);
        Due.due("spent by faults", x.run(spent, 0, 0), 2);
        Due.due("spent by faults", x.number(), 0);
        Due.due("before any", new StoryClasses().number(), 0);
    }

    private static void output() {
        Due.says("Promise 18", "Number i of THE OUTPUT.");
        StoryClasses x = new StoryClasses();
        int one = Due.tell(x, 2, "1 0; 26; 1 1; 26; 0 -5; 26; 0 0; 20");
        Due.due("run", x.run(one, MOST, LEAST), 0);
        Due.due("0", x.output(0), MOST);
        Due.due("1", x.output(1), LEAST);
        Due.due("2", x.output(2), -5);
        Due.says("Promise 18", "0: there is none such.");
        for (int i : new int[] {MIN, -1, 3, 59, 60, MAX}) Due.due("" + i, x.output(i), 0);
        // Sixty, and then fewer again.
        int loop = Due.tell(x, 1, "1 0; 26; 10 0");
        x.run(loop, 8, 0);
        Due.due("the last", x.output(59), 8);
        for (int i : new int[] {MIN, -1, 60, 99, MAX}) Due.due("" + i, x.output(i), 0);
        x.run(one, 1, 2);
        for (int i : new int[] {3, 59, 60}) Due.due("" + i, x.output(i), 0);
        Due.due("before any", new StoryClasses().output(0), 0);
    }
}
