/** Promises 14 to 18: run, result, told, number, output; GUARDS and LASTS (term 4). */
final class RunTest {
    private static final int BAD = StoryClasses.BAD, NONE = StoryClasses.NONE;
    private static final int ZERO = 6, DEEP = 9, BEHIND = 10, OWN = 11, NOTHING = 1;

    private RunTest() { }

    public static void main(String[] args) {
        refused();
        locals();
        spentBySteps();
        behindAtTheLastStep();
        spentByFaults();
        deep();
        guards();
        guardsAtCalls();
        lastAfterReturn();
        lastAfterFault();
        lastReplaces();
        lastThatCannot();
        lastPerOpening();
        lastBetweenCalls();
        Due.end();
    }

    private static void told(String what, StoryClasses x, int... want) {
        for (int k = 0; k < want.length; k++) Due.due(what + ": told " + k, x.told(k), want[k]);
    }

    private static void refused() {
        StoryClasses x = new StoryClasses();
        int fails = Due.tell(x, 1, 0, 5, 0, 26, 0, 0, 0, 9, 0, 21, 0, 0);
        int empty = x.routine(1);
        Due.due("by a fault", x.run(fails, 0, 0), 1);
        for (int k = -1; k < 3; k++) {
            if (k != fails) Due.due("refused", x.run(k, 0, 0), BAD);
        }
        Due.due("no ops", x.run(empty, 0, 0), BAD);
        told("as before", x, OWN, fails, 3, 4, 1, 0, 0, 1);
        Due.due("as before", x.number(), 9);
        Due.due("as before", x.output(0), 5);
        Due.due("told above", x.told(8), BAD);
        Due.due("told below", x.told(-1), BAD);
        Due.gives("a return", x, Due.tell(x, 1, 0, 3, 0, 20, 0, 0), 3);
        told("anew", x, 0, NONE, NONE, 2, 0, 0, 0, 1);
        Due.due("anew", x.number(), 0);
        x.run(fails, 0, 0);
        Due.due("returned nothing", x.result(), 0);
    }

    private static void locals() {
        StoryClasses x = new StoryClasses();
        int two = Due.tell(x, 3, 1, 0, 0, 1, 1, 0, 4, 0, 0, 1, 2, 0, 3, 0, 0, 20, 0, 0);
        x.run(two, Long.MAX_VALUE, 7);
        Due.due("locals 0 and 1", x.result(), Long.MAX_VALUE - 7);
        int one = Due.tell(x, 1, 1, 0, 0, 20, 0, 0);
        x.run(one, 4, 7);
        Due.due("local 0 alone", x.result(), 4);
    }

    private static void spentBySteps() {
        StoryClasses x = new StoryClasses();
        int keep = Due.tell(x, 1, 27, 0, 0, 26, 0, 0, 10, 2, 0);
        Due.due("spent", x.run(keep, 0, 0), 2);
        told("spent", x, 0, NONE, NONE, 300, 0, 0, 0, 1);
        Due.due("returned nothing", x.result(), 0);
        Due.due("what was done stays", x.count(2, 0), 1);
        Due.due("what was done stays", x.output(0), 1);
        Due.due("295 steps", x.run(rounds(x, 0), 42, 5), 0);
        Due.due("295 steps", x.told(3), 295);
        Due.due("300 steps", x.run(rounds(x, 5), 42, 5), 0);
        Due.due("300 steps", x.told(3), 300);
        Due.due("300 steps", x.result(), 5);
        Due.due("301 would be", x.run(rounds(x, 6), 42, 5), 2);
        Due.due("300 are begun", x.told(3), 300);
    }

    /** RETURNS LOCAL 1 after LOCAL 0 rounds of seven OPS, of which the last has six, and more. */
    private static int rounds(StoryClasses x, int more) {
        int routine = x.routine(2);
        for (int k = 0; k < more; k++) x.op(routine, 10, k + 1, 0);
        Due.more(x, routine, 1, 0, 0, 0, 1, 0, 4, 0, 0, 2, 0, 0, 1, 0, 0, 11, more + 7, 0,
            10, more, 0, 1, 1, 0, 20, 0, 0);
        return routine;
    }

    private static void behindAtTheLastStep() {
        StoryClasses x = new StoryClasses();
        int exact = x.routine(1);
        for (int k = 0; k < 6; k++) x.op(exact, 10, k + 1, 0);
        Due.more(x, exact, 1, 0, 0, 0, 1, 0, 4, 0, 0, 2, 0, 0, 1, 0, 0, 11, 13, 0, 10, 6, 0,
            10, 29, 0);
        Due.due("behind at step 300", x.run(exact, 42, 0), 1);
        told("behind at step 300", x, BEHIND, exact, 13, 300, 1, 0, 0, 1);
        x.guard(exact, 13, 14, 0, 0);
        Due.due("taken, but 301 would be", x.run(exact, 42, 0), 2);
        told("taken, but 301 would be", x, 0, NONE, NONE, 300, 1, 1, 0, 1);
    }

    private static void spentByFaults() {
        StoryClasses x = new StoryClasses();
        int again = Due.tell(x, 1, 22, 0, 0);
        x.guard(again, 0, 1, 0, 0);
        Due.due("spent", x.run(again, 0, 0), 2);
        told("spent", x, 0, NONE, NONE, 25, 25, 24, 0, 1);
        Due.due("no number", x.number(), 0);
        // A FAULT that comes on at a CALL is not counted again.
        StoryClasses y = new StoryClasses();
        int inner = Due.tell(y, 1, 22, 0, 0);
        int outer = Due.tell(y, 1, 19, inner, 0);
        y.guard(outer, 0, 1, BEHIND, 0);
        Due.due("spent", y.run(outer, 0, 0), 2);
        told("spent", y, 0, NONE, NONE, 50, 25, 24, 0, 2);
    }

    private static void deep() {
        StoryClasses x = new StoryClasses();
        int self = Due.tell(x, 1, 1, 0, 0, 0, 1, 0, 3, 0, 0, 19, 0, 1, 20, 0, 0,
            2, 0, 0, 20, 0, 0);
        Due.due("deep", x.run(self, 0, 0), 1);
        told("deep", x, DEEP, self, 3, 48, 1, 0, 0, 12);
        x.guard(self, 3, 4, DEEP, 5);
        Due.due("guarded", x.run(self, 0, 0), 0);
        Due.due("guarded", x.result(), 0);
        told("guarded", x, 0, NONE, NONE, 48 + 2 + 11, 1, 1, 0, 12);
        Due.gives("the next run", x, Due.tell(x, 1, 0, 1, 0, 20, 0, 0), 1);
        told("the next run", x, 0, NONE, NONE, 2, 0, 0, 0, 1);
    }

    private static void guards() {
        StoryClasses x = new StoryClasses();
        int own = Due.tell(x, 1, 0, 9, 0, 0, 77, 0, 21, 0, 0,
            26, 0, 0, 26, 0, 0, 26, 0, 0, 0, 1, 0, 20, 0, 0);
        x.guard(own, 0, 2, 0, 6);
        x.guard(own, 2, 3, ZERO, 6);
        x.guard(own, 2, 3, OWN, 29);
        x.guard(own, 2, 3, OWN, 3);
        Due.faults("the pile is emptied", x, own, 8, 5);
        Due.due("code is laid last", x.output(0), OWN);
        Due.due("number before it", x.output(1), 77);
        told("taken", x, 8, own, 5, 6, 2, 1, 0, 1);
        StoryClasses y = new StoryClasses();
        int first = Due.tell(y, 1, 22, 0, 0, 0, 1, 0, 20, 0, 0, 0, 2, 0, 20, 0, 0);
        y.guard(first, 0, 30, 0, 3);
        y.guard(first, 0, 30, BEHIND, 1);
        Due.gives("the first guard", y, first, 2);
        StoryClasses z = new StoryClasses();
        int behind = Due.tell(z, 1, 0, 1, 0, 20, 0, 0, 10, 4, 0, 10, 20, 0, 0, 8, 0, 10, 0, 0);
        z.guard(behind, 3, 4, BEHIND, 0);
        Due.gives("not reached", z, behind, 1);
        int wide = Due.tell(z, 1, 10, 20, 0, 0, 8, 0, 20, 0, 0);
        z.guard(wide, 20, 21, 0, 1);
        Due.faults("the place is that of the op that goes", z, wide, BEHIND, 0);
        z.guard(wide, 0, 1, 0, 1);
        Due.gives("guarded there", z, wide, 8);
    }

    private static void guardsAtCalls() {
        StoryClasses x = new StoryClasses();
        int inner = Due.tell(x, 1, 0, 6, 0, 0, 5, 0, 21, 0, 0);
        int middle = Due.tell(x, 1, 19, inner, 0, 20, 0, 0);
        int outer = Due.tell(x, 1, 0, 1, 0, 19, middle, 0, 20, 0, 0, 2, 0, 0, 20, 0, 0);
        Due.due("comes out", x.run(outer, 0, 0), 1);
        told("came first", x, OWN, inner, 2, 6, 1, 0, 0, 3);
        Due.due("number", x.number(), 5);
        x.guard(outer, 1, 2, OWN, 3);
        Due.gives("taken at the call", x, outer, 5);
        told("taken", x, 0, NONE, NONE, 8, 1, 1, 0, 3);
        x.guard(middle, 0, 1, ZERO, 1);
        Due.gives("not by another code", x, outer, 5);
        x.guard(middle, 0, 1, 0, 1);
        Due.gives("the inner one first", x, outer, OWN);
    }

    private static void lastAfterReturn() {
        StoryClasses x = new StoryClasses();
        int leaves = Due.tell(x, 1, 0, 4, 0, 0, 3, 0, 20, 0, 0, 0, 8, 0, 26, 0, 0, 22, 0, 0);
        x.last(leaves, 3);
        Due.gives("what was put aside", x, leaves, 3);
        told("last", x, 0, NONE, NONE, 6, 0, 0, 1, 1);
        Due.due("it was done", x.output(0), 8);
        int empty = Due.tell(x, 1, 0, 4, 0, 0, 3, 0, 20, 0, 0, 2, 0, 0, 22, 0, 0);
        x.last(empty, 3);
        Due.faults("the pile is emptied", x, empty, 8, 3);
        int again = Due.tell(x, 1, 0, 3, 0, 20, 0, 0, 0, 4, 0, 20, 0, 0);
        x.last(again, 2);
        Due.gives("a return in its place", x, again, 4);
        x.last(again, NONE);
        Due.gives("no last", x, again, 3);
        told("no last", x, 0, NONE, NONE, 2, 0, 0, 0, 1);
    }

    private static void lastAfterFault() {
        StoryClasses x = new StoryClasses();
        int leaves = Due.tell(x, 1, 0, 9, 0, 21, 0, 0, 0, 8, 0, 26, 0, 0, 22, 0, 0);
        x.last(leaves, 2);
        Due.faults("what was put aside", x, leaves, OWN, 1);
        Due.due("its number", x.number(), 9);
        told("last", x, OWN, leaves, 1, 5, 1, 0, 1, 1);
        Due.due("it was done", x.output(0), 8);
        x.guard(leaves, 4, 5, 0, 2);
        Due.faults("no guard is asked at a leave", x, leaves, OWN, 1);
        int returns = Due.tell(x, 1, 0, 3, 0, 20, 0, 0, 22, 0, 0);
        x.last(returns, 2);
        Due.gives("nothing of that is put aside in the next run", x, returns, 3);
        int refused = Due.tell(x, 1, 0, 9, 0, 21, 0, 0, 22, 0, 0);
        x.guard(refused, 1, 2, 0, 2);
        Due.faults("a handler's leave, when last has not begun", x, refused, BEHIND, 2);
    }

    private static void lastReplaces() {
        StoryClasses x = new StoryClasses();
        int other = Due.tell(x, 1, 0, 9, 0, 21, 0, 0, 14, 0, 0, 22, 0, 0);
        x.last(other, 2);
        Due.faults("a fault in last goes in its place", x, other, NOTHING, 2);
        told("both counted", x, NOTHING, other, 2, 3, 2, 0, 1, 1);
        int returns = Due.tell(x, 1, 0, 9, 0, 21, 0, 0, 0, 5, 0, 20, 0, 0);
        x.last(returns, 2);
        Due.gives("a return in last goes in its place", x, returns, 5);
        int guarded = Due.tell(x, 1, 0, 9, 0, 21, 0, 0, 14, 0, 0, 22, 0, 0);
        x.last(guarded, 2);
        x.guard(guarded, 2, 3, NOTHING, 3);
        Due.faults("one that a guard takes does not", x, guarded, OWN, 1);
        told("taken", x, OWN, guarded, 1, 4, 2, 1, 1, 1);
    }

    private static void lastThatCannot() {
        StoryClasses x = new StoryClasses();
        int none = Due.tell(x, 1, 0, 3, 0, 20, 0, 0);
        x.last(none, 2);
        Due.gives("no op at its place", x, none, 3);
        told("no op at its place", x, 0, NONE, NONE, 2, 0, 0, 0, 1);
        x.op(none, 0, 4, 0);
        x.op(none, 20, 0, 0);
        Due.gives("now there is", x, none, 4);
        int walked = Due.tell(x, 1, 0, 3, 0, 22, 0, 0, 0, 6, 0, 20, 0, 0);
        x.last(walked, 0);
        Due.faults("to walk in is not to begin", x, walked, BEHIND, 1);
        told("but the fault begins it", x, BEHIND, walked, 1, 4, 1, 0, 1, 1);
    }

    private static void lastPerOpening() {
        StoryClasses x = new StoryClasses();
        // LOCAL 0 above 0: calls itself with one less, RETURNS that; LAST prints LOCAL 0.
        int self = Due.tell(x, 1, 1, 0, 0, 11, 7, 0, 1, 0, 0, 0, 1, 0, 4, 0, 0, 19, 0, 1, 20, 0, 0,
            0, 40, 0, 20, 0, 0, 1, 0, 0, 26, 0, 0, 22, 0, 0);
        x.last(self, 9);
        Due.due("run", x.run(self, 3, 0), 0);
        Due.due("result", x.result(), 40);
        Due.due("each of them", x.told(6), 4);
        for (int k = 0; k < 4; k++) Due.due("the inner one first", x.output(k), k);
        Due.due("run again", x.run(self, 1, 0), 0);
        Due.due("each of them", x.told(6), 2);
    }

    private static void lastBetweenCalls() {
        StoryClasses x = new StoryClasses();
        int inner = Due.tell(x, 1, 0, 0, 0, 0, 0, 0, 6, 0, 0, 20, 0, 0, 22, 0, 0);
        int outer = Due.tell(x, 1, 19, inner, 0, 20, 0, 0, 0, 8, 0, 26, 0, 0, 26, 0, 0, 20, 0, 0);
        x.last(inner, 4);
        x.guard(outer, 0, 1, ZERO, 4);
        Due.gives("left with a fault, taken at the call", x, outer, 0);
        Due.due("its code", x.output(0), ZERO);
        told("taken", x, 0, NONE, NONE, 4 + 1 + 2, 1, 1, 1, 2);
        int plain = Due.tell(x, 1, 19, inner, 0, 20, 0, 0, 0, 8, 0, 26, 0, 0, 22, 0, 0);
        x.last(plain, 2);
        Due.due("through two lasts", x.run(plain, 0, 0), 1);
        told("it came first in the inner one", x, ZERO, inner, 2, 8, 1, 0, 2, 2);
    }
}
