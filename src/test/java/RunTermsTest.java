/** Terms 4: RUNS, GUARDS and LAST. */
final class RunTermsTest {
    private static final int NONE = StoryClasses.NONE;
    private static final int NOTHING = 1, ZERO = 6, PILE = 8, DEEP = 9, BEHIND = 10, OWN = 11;

    private RunTermsTest() { }

    public static void main(String[] args) {
        twoNumbers();
        steps();
        the301st();
        whatTheLastStepDoes();
        the25thFault();
        faultsThatComeOn();
        allEndsAtOnce();
        whereAFaultComes();
        guardedPlaces();
        guardedCodes();
        handlers();
        whatAGuardDoes();
        lastNeedsAnOp();
        lastOnce();
        lastOncePerOpening();
        whatLastDoes();
        endsWithTheFault();
        returnBeginsLast();
        returnEnds();
        leaves();
        leavesTooEarly();
        inItsPlace();
        Due.end();
    }

    private static void twoNumbers() {
        Due.says("Terms 4",
            "A RUN calls a ROUTINE with two numbers, LOCALS 0 and 1 (if it has that).");
        for (int locals = 1; locals < 7; locals++) {
            StoryClasses x = new StoryClasses();
            StringBuilder ops = new StringBuilder();
            for (int k = 0; k < locals; k++) ops.append("1 ").append(k).append("; 26; ");
            int routine = Due.tell(x, locals, ops + "0 0; 20");
            Due.due("run", x.run(routine, Long.MAX_VALUE, Long.MIN_VALUE), 0);
            for (int k = 0; k < locals; k++) {
                long want = k == 0 ? Long.MAX_VALUE : k == 1 ? Long.MIN_VALUE : 0;
                Due.due("local " + k, x.output(k), want);
            }
        }
        // What one with two LOCALS was given is not there in one with a LOCAL that it calls.
        StoryClasses y = new StoryClasses();
        int one = Due.tell(y, 1, "1 0; 20");
        Due.due("run", y.run(Due.tell(y, 2, "19 " + one + " 0; 20"), 5, 6), 0);
        Due.due("not handed on", y.result(), 0);
        Due.due("run", y.run(one, 5, 6), 0);
        Due.due("one local", y.result(), 5);
    }

    private static void steps() {
        Due.says("Terms 4", "Each OP that is begun is a STEP;");
        StoryClasses x = new StoryClasses();
        Due.gives(x, "0 1; 20", 1);
        Due.due("two", x.told(3), 2);
        Due.faults(x, "0 1; 0 0; 6; 0 1; 20", ZERO, 2);
        Due.due("one that is refused, too", x.told(3), 3);
        Due.faults(x, "26", PILE, 0);
        Due.due("one that takes nothing, too", x.told(3), 1);
        Due.gives(x, "19 0 0; 19 0 0; 3; 20", 2);
        Due.due("those of what is called, too", x.told(3), 8);
        int guarded = Due.tell(x, 1, "22; 20");
        x.guard(guarded, 0, 1, 0, 1);
        Due.gives("guarded", x, guarded, BEHIND);
        Due.due("to take a fault is none", x.told(3), 2);
        int last = Due.tell(x, 1, "0 1; 20; 22");
        x.last(last, 2);
        Due.gives("with a last", x, last, 1);
        Due.due("to begin a last is none", x.told(3), 3);
    }

    /** OPS that take 293 STEPS and as many more as told, if LOCAL 0 is 42; then come others. */
    private static String idle(int more, String others) {
        StringBuilder ops = new StringBuilder();
        for (int k = 0; k < more; k++) ops.append("10 ").append(k + 1).append("; ");
        return ops + "1 0; 0 1; 4; 2 0; 1 0; 11 " + (more + 7) + "; 10 " + more + "; " + others;
    }

    /** A RUN whose 293rd STEP and some more are idle: how it ended. */
    private static int runIdle(StoryClasses x, int more, String others) {
        return x.run(Due.tell(x, 2, idle(more, others)), 42, 5);
    }

    private static void the301st() {
        Due.says("Terms 4", "where the 301st would be,");
        StoryClasses x = new StoryClasses();
        Due.due("299", runIdle(x, 4, "1 1; 20"), 0);
        Due.told("299", x, 0, NONE, NONE, 299, 0, 0, 0, 1);
        Due.due("300", runIdle(x, 5, "1 1; 20"), 0);
        Due.told("300", x, 0, NONE, NONE, 300, 0, 0, 0, 1);
        Due.due("300", x.result(), 5);
        Due.due("301", runIdle(x, 6, "1 1; 20"), 2);
        Due.told("301", x, 0, NONE, NONE, 300, 0, 0, 0, 1);
        Due.due("301", x.result(), 0);
        Due.due("301, of a fault", runIdle(x, 6, "1 1; 21"), 2);
        Due.told("301, of a fault", x, 0, NONE, NONE, 300, 0, 0, 0, 1);
        Due.due("301, of an output", runIdle(x, 6, "1 1; 26; 22"), 2);
        Due.due("it is not begun", x.count(3, 0), 0);
        Due.due("on and on", x.run(Due.tell(x, 1, "10 0"), 0, 0), 2);
        Due.due("on and on", x.told(3), 300);
        Due.due("anew in the next run", runIdle(x, 5, "1 1; 20"), 0);
    }

    private static void whatTheLastStepDoes() {
        Due.says("Terms 4", "where the 301st would be,");
        StoryClasses x = new StoryClasses();
        Due.due("a fault at the 300th", runIdle(x, 5, "1 1; 21"), 1);
        Due.told("a fault at the 300th", x, OWN, 0, 13, 300, 1, 0, 0, 1);
        Due.due("its number", x.number(), 5);
        Due.due("behind at the 300th", runIdle(x, 6, "0 1"), 1);
        Due.told("behind at the 300th", x, BEHIND, 1, 13, 300, 1, 0, 0, 1);
        x.guard(0, 13, 14, OWN, 12);
        Due.due("one that is taken", x.run(0, 42, 5), 2);
        Due.told("one that is taken", x, 0, NONE, NONE, 300, 1, 1, 0, 1);
        x.last(1, 0);
        Due.due("one at which last begins", x.run(1, 42, 5), 2);
        Due.told("one at which last begins", x, 0, NONE, NONE, 300, 1, 0, 1, 1);
        Due.due("a call", runIdle(x, 6, "19 0 0"), 2);
        Due.told("a call", x, 0, NONE, NONE, 300, 0, 0, 0, 2);
        int returns = Due.tell(x, 2, "0 1; 20");
        Due.due("a return to a call", runIdle(x, 4, "19 " + returns + " 0; 20"), 2);
        Due.told("a return to a call", x, 0, NONE, NONE, 300, 0, 0, 0, 2);
        Due.due("a return, and behind", runIdle(x, 4, "19 " + returns + " 0"), 1);
        Due.told("a return, and behind", x, BEHIND, returns + 2, 11, 300, 1, 0, 0, 2);
    }

    private static void the25thFault() {
        Due.says("Terms 4", "or at the 25th FAULT (counted as they come at an OP;");
        StoryClasses x = new StoryClasses();
        int again = Due.tell(x, 1, "22");
        x.guard(again, 0, 1, 0, 0);
        Due.due("all taken", x.run(again, 0, 0), 2);
        Due.told("all taken", x, 0, NONE, NONE, 25, 25, 24, 0, 1);
        Due.due("no number", x.number(), 0);
        // LOCAL 0 FAULTS that are taken, then a RETURN.
        int some = Due.tell(x, 1, "1 0; 11 8; 1 0; 0 1; 4; 2 0; 22; 22; 0 7; 20; 10 0");
        x.guard(some, 6, 7, BEHIND, 10);
        Due.due("24 of them", x.run(some, 24, 0), 0);
        Due.due("24 of them", x.told(4), 24);
        Due.due("24 of them", x.told(5), 24);
        Due.due("24 of them", x.result(), 7);
        Due.due("25 of them", x.run(some, 25, 0), 2);
        Due.told("25 of them", x, 0, NONE, NONE, 24 * 8 + 7, 25, 24, 0, 1);
        // 24, then one that none takes.
        int more = Due.tell(x, 1, "1 0; 11 8; 1 0; 0 1; 4; 2 0; 22; 22; 21; 10 0");
        x.guard(more, 6, 7, BEHIND, 9);
        Due.due("the 24th ends it", x.run(more, 23, 0), 1);
        Due.told("the 24th ends it", x, OWN, more, 8, 23 * 8 + 3, 24, 23, 0, 1);
        Due.due("the 25th spends it", x.run(more, 24, 0), 2);
        Due.told("the 25th spends it", x, 0, NONE, NONE, 24 * 8 + 3, 25, 24, 0, 1);
    }

    private static void faultsThatComeOn() {
        Due.says("Terms 4", "not those that come on at a CALL),");
        StoryClasses x = new StoryClasses();
        int inner = Due.tell(x, 1, "22");
        int outer = Due.tell(x, 1, "19 " + inner + " 0");
        Due.due("one", x.run(outer, 0, 0), 1);
        Due.told("one", x, BEHIND, inner, 0, 2, 1, 0, 0, 2);
        x.guard(outer, 0, 1, BEHIND, 0);
        Due.due("spent", x.run(outer, 0, 0), 2);
        Due.told("spent", x, 0, NONE, NONE, 50, 25, 24, 0, 2);
        int deep = Due.tell(x, 1, "19 2 0");
        Due.due("through eleven calls", x.run(deep, 0, 0), 1);
        Due.told("through eleven calls", x, DEEP, deep, 0, 12, 1, 0, 0, 12);
        int left = Due.tell(x, 1, "0 9; 21; 22");
        x.last(left, 2);
        Due.due("put aside and left", x.run(left, 0, 0), 1);
        Due.told("put aside and left", x, OWN, left, 1, 3, 1, 0, 1, 1);
        int called = Due.tell(x, 1, "19 " + left + " 0");
        Due.due("and come on", x.run(called, 0, 0), 1);
        Due.told("and come on", x, OWN, left, 1, 4, 1, 0, 1, 2);
    }

    private static void allEndsAtOnce() {
        Due.says("Terms 4", "the RUN is SPENT: all ends at once.");
        StoryClasses x = new StoryClasses();
        int inner = Due.tell(x, 1, "22; 0 1; 26; 22");
        int outer = Due.tell(x, 1, "19 " + inner + " 0; 0 1; 26; 22");
        x.guard(inner, 0, 1, 0, 0);
        x.last(inner, 1);
        x.guard(outer, 0, 1, 0, 1);
        x.last(outer, 1);
        Due.due("spent by faults", x.run(outer, 0, 0), 2);
        Due.told("no guard, no last", x, 0, NONE, NONE, 26, 25, 24, 0, 2);
        Due.due("nothing is put out", x.count(3, 0), 0);
        Due.due("nothing is returned", x.result(), 0);
        StoryClasses y = new StoryClasses();
        y.row(0, 5, 1);
        int round = Due.tell(y, 1, "27; 26; 0 0; 0 8; 13 0 5; 10 5");
        y.last(round, 0);
        Due.due("spent by steps", y.run(round, 0, 0), 2);
        Due.told("no last", y, 0, NONE, NONE, 300, 0, 0, 0, 1);
        Due.due("what was done stays: kept", y.count(2, 0), 1);
        Due.due("what was done stays: output", y.output(0), 1);
        Due.due("what was done stays: item", y.item(0, 0), 8);
        Due.gives(y, "0 3; 20", 3);
    }

    private static void whereAFaultComes() {
        Due.says("Terms 4", "A FAULT at an OP (or one with which what it called ended):");
        StoryClasses x = new StoryClasses();
        int inner = Due.tell(x, 1, "0 6; 0 5; 21; 20");
        int middle = Due.tell(x, 1, "19 " + inner + " 0; 20");
        int outer = Due.tell(x, 1, "0 1; 19 " + middle + " 0; 20; 2 0; 20");
        Due.due("comes out", x.run(outer, 0, 0), 1);
        Due.told("came first", x, OWN, inner, 2, 6, 1, 0, 0, 3);
        Due.due("its number", x.number(), 5);
        x.guard(outer, 2, 3, 0, 3);
        Due.due("not at the place behind the call", x.run(outer, 0, 0), 1);
        x.guard(outer, 1, 2, OWN, 3);
        Due.gives("at the call", x, outer, 5);
        Due.told("at the call", x, 0, NONE, NONE, 8, 1, 1, 0, 3);
        x.guard(middle, 0, 1, 0, 1);
        Due.gives("the inner call first", x, outer, OWN);
        Due.told("the inner call first", x, 0, NONE, NONE, 8, 1, 1, 0, 3);
        x.guard(inner, 2, 3, 0, 3);
        Due.gives("the op itself first of all", x, outer, OWN);
        Due.told("the op itself first of all", x, 0, NONE, NONE, 9, 1, 1, 0, 3);
    }

    private static void guardedPlaces() {
        Due.says("Terms 4", "the first GUARD whose places have it (from .. to, without to),");
        for (int place = 0; place < 4; place++) {
            StoryClasses x = new StoryClasses();
            int routine = x.routine(1);
            for (int k = 0; k < 4; k++) Due.more(x, routine, k == place ? "22" : "10 " + (k + 1));
            Due.more(x, routine, "22; 0 3; 20");
            x.guard(routine, 1, 3, 0, 5);
            if (place == 1 || place == 2) Due.gives("place " + place, x, routine, 3);
            else Due.faults("place " + place, x, routine, BEHIND, place);
        }
        StoryClasses y = new StoryClasses();
        int first = Due.tell(y, 1, "22; 0 1; 20; 0 2; 20; 0 3; 20");
        y.guard(first, 1, 30, 0, 1);
        y.guard(first, 0, 30, 0, 3);
        y.guard(first, 0, 1, BEHIND, 5);
        Due.gives("the first that has it", y, first, 2);
        int last = Due.tell(y, 1, "10 29; 0 6; 20; " + Due.times(26, "22") + "; 22");
        y.guard(last, 29, 30, BEHIND, 1);
        Due.gives("the last place", y, last, 6);
    }

    private static void guardedCodes() {
        Due.says("Terms 4", "whose CODE is that or 0,");
        for (int code = 0; code < 13; code++) {
            StoryClasses x = new StoryClasses();
            int routine = Due.tell(x, 1, "0 1; 0 0; 6; 20");
            x.guard(routine, 0, 4, code, 3);
            if (code == 0 || code == ZERO) Due.gives("code " + code, x, routine, ZERO);
            else Due.faults("code " + code, x, routine, ZERO, 2);
        }
        StoryClasses y = new StoryClasses();
        int routine = Due.tell(y, 1, "0 1; 0 0; 6; 0 1; 20; 0 2; 20; 0 3; 20");
        y.guard(routine, 0, 9, 5, 3);
        y.guard(routine, 0, 9, 7, 3);
        y.guard(routine, 0, 9, ZERO, 5);
        y.guard(routine, 0, 9, 0, 7);
        Due.gives("the first of those that mind it", y, routine, 2);
    }

    private static void handlers() {
        Due.says("Terms 4", "and at whose handler there is an OP, TAKES it:");
        StoryClasses x = new StoryClasses();
        int routine = Due.tell(x, 1, "22; 0 7; 20");
        x.guard(routine, 0, 1, 0, 3);
        Due.faults("no op there", x, routine, BEHIND, 0);
        Due.due("none took", x.told(5), 0);
        x.guard(routine, 0, 1, 0, 1);
        Due.gives("the next guard", x, routine, 7);
        Due.more(x, routine, "0 8; 20");
        Due.gives("now there is one", x, routine, 8);
        Due.due("one took", x.told(5), 1);
        int last = Due.tell(x, 1, "22; " + Due.times(28, "0 0") + "; 20");
        x.guard(last, 0, 1, 0, 29);
        Due.gives("the last place", x, last, BEHIND);
        int none = Due.tell(x, 1, "22; 0 7; 20");
        x.guard(none, 0, 1, 0, 29);
        x.last(none, 1);
        Due.gives("else last begins", x, none, 7);
        Due.told("else last begins", x, 0, NONE, NONE, 3, 1, 0, 1, 1);
    }

    private static void whatAGuardDoes() {
        Due.says("Terms 4",
            "the PILE is emptied, NUMBER and CODE are laid, it goes on at the handler.");
        StoryClasses x = new StoryClasses();
        int own = Due.tell(x, 1, Due.times(7, "0 1") + "; 0 -77; 21; 26; 26; 26");
        x.guard(own, 8, 9, OWN, 9);
        Due.faults("the pile is emptied", x, own, PILE, 11);
        Due.due("code is the latest", x.output(0), OWN);
        Due.due("number before it", x.output(1), -77);
        Due.due("two", x.count(3, 0), 2);
        Due.told("taken", x, PILE, own, 11, 12, 2, 1, 0, 1);
        int full = Due.tell(x, 1, Due.times(9, "0 1") + "; 26; 0 6; 20");
        x.guard(full, 8, 9, PILE, 9);
        Due.gives("a full pile is emptied, too", x, full, 6);
        Due.due("its code", x.output(0), PILE);
        int locals = Due.tell(x, 2, "0 4; 2 1; 22; 1 1; 20");
        x.guard(locals, 2, 3, 0, 3);
        Due.gives("locals stay", x, locals, 4);
        int back = Due.tell(x, 1, "0 9; 20; 22");
        Due.gives("no guard is asked without a fault", x, back, 9);
        int handler = Due.tell(x, 1, "22; 22; 0 2; 20");
        x.guard(handler, 0, 1, 0, 1);
        x.guard(handler, 1, 2, 0, 2);
        Due.gives("a fault at a handler", x, handler, 2);
        Due.due("two took", x.told(5), 2);
    }

    private static void lastNeedsAnOp() {
        Due.says("Terms 4", "Else, if there is an OP at the place told for LAST,");
        StoryClasses x = new StoryClasses();
        int routine = Due.tell(x, 1, "0 5; 21");
        x.last(routine, 2);
        Due.faults("no op there", x, routine, OWN, 1);
        Due.due("it did not begin", x.told(6), 0);
        Due.more(x, routine, "0 7; 20");
        Due.gives("now there is", x, routine, 7);
        Due.due("it began", x.told(6), 1);
        x.guard(routine, 1, 2, 0, 3);
        Due.gives("a guard comes first", x, routine, 7);
        Due.due("then last, by the return", x.told(6), 1);
        Due.due("one took", x.told(5), 1);
        int far = Due.tell(x, 1, "0 5; 21; " + Due.times(27, "0 0") + "; 22");
        x.last(far, 29);
        Due.faults("the last place", x, far, OWN, 1);
        Due.due("it began", x.told(6), 1);
    }

    private static void lastOnce() {
        Due.says("Terms 4", "and LAST has not begun in this ROUTINE (as it is open now),");
        StoryClasses x = new StoryClasses();
        int fails = Due.tell(x, 1, "0 5; 21; 0 6; 21");
        x.last(fails, 2);
        Due.faults("a fault in last", x, fails, OWN, 3);
        Due.due("its number", x.number(), 6);
        Due.told("it began once", x, OWN, fails, 3, 4, 2, 0, 1, 1);
        int whole = Due.tell(x, 1, "0 5; 21");
        x.last(whole, 0);
        Due.faults("last is all of it", x, whole, OWN, 1);
        Due.told("it began once", x, OWN, whole, 1, 4, 2, 0, 1, 1);
        int walked = Due.tell(x, 1, "0 5; 0 6; 21; 22");
        x.last(walked, 1);
        Due.faults("to walk into its place is not to begin it", x, walked, OWN, 2);
        Due.told("the fault begins it", x, OWN, walked, 2, 5, 2, 0, 1, 1);
        Due.faults("anew in the next run", x, walked, OWN, 2);
        Due.due("anew in the next run", x.told(6), 1);
    }

    private static void lastOncePerOpening() {
        Due.says("Terms 4", "and LAST has not begun in this ROUTINE (as it is open now),");
        StoryClasses x = new StoryClasses();
        // LOCAL 0 above 0: calls itself with one less, RETURNS that; LAST puts LOCAL 0 out.
        int self = Due.tell(x, 1, "1 0; 11 7; 1 0; 0 1; 4; 19 0 1; 20; 0 40; 20; 1 0; 26; 22");
        x.last(self, 9);
        Due.due("run", x.run(self, 3, 0), 0);
        Due.due("result", x.result(), 40);
        Due.due("each of four", x.told(6), 4);
        for (int k = 0; k < 4; k++) Due.due("the inner one first", x.output(k), k);
        int inner = Due.tell(x, 1, "0 1; 20; 0 8; 26; 22");
        x.last(inner, 2);
        Due.gives(x, "19 " + inner + " 0; 19 " + inner + " 0; 3; 20", 2);
        Due.due("called twice, it begins twice", x.told(6), 2);
        Due.due("called twice, it is done twice", x.count(3, 0), 2);
        // In its LAST the ROUTINE calls one whose LAST begins, too.
        int outer = Due.tell(x, 1, "0 3; 20; 19 " + inner + " 0; 26; 22");
        x.last(outer, 2);
        Due.gives("a last that calls", x, outer, 3);
        Due.due("both began", x.told(6), 2);
        Due.due("what it was returned", x.output(1), 1);
    }

    private static void whatLastDoes() {
        Due.says("Terms 4",
            "LAST BEGINS: the FAULT is put aside, the PILE emptied, it goes on there.");
        StoryClasses x = new StoryClasses();
        int routine = Due.tell(x, 2, "0 4; 2 1; 0 1; 0 9; 21; 1 1; 26; 22");
        x.last(routine, 5);
        Due.faults("what was put aside", x, routine, OWN, 4);
        Due.due("its number", x.number(), 9);
        Due.due("locals stay", x.output(0), 4);
        Due.told("it began", x, OWN, routine, 4, 8, 1, 0, 1, 1);
        int empty = Due.tell(x, 1, "0 1; 0 1; 0 9; 21; 26; 22");
        x.last(empty, 4);
        Due.faults("neither what was laid nor number and code", x, empty, PILE, 4);
        int full = Due.tell(x, 1, Due.times(9, "0 1") + "; " + Due.times(8, "0 2") + "; 22");
        x.last(full, 9);
        Due.faults("it has room for eight", x, full, PILE, 8);
        Due.due("to its end", x.told(3), 18);
    }

    private static void endsWithTheFault() {
        Due.says("Terms 4", "Else the ROUTINE ends with it.");
        StoryClasses x = new StoryClasses();
        int inner = Due.tell(x, 1, "0 5; 21; 0 1; 26; 0 2; 20");
        Due.faults("no guard, no last", x, inner, OWN, 1);
        Due.due("nothing behind it is done", x.count(3, 0), 0);
        int outer = Due.tell(x, 1, "19 " + inner + " 0; 20; 0 8; 26; 22");
        x.last(outer, 2);
        Due.due("the caller's last begins", x.run(outer, 0, 0), 1);
        Due.told("the caller's last begins", x, OWN, inner, 1, 6, 1, 0, 1, 2);
        Due.due("it is done", x.output(0), 8);
        Due.due("its number", x.number(), 5);
    }

    private static void returnBeginsLast() {
        Due.says("Terms 4", "RETURN x: LAST BEGINS likewise, if it can: x is put aside;");
        StoryClasses x = new StoryClasses();
        int routine = Due.tell(x, 1, "0 4; 1 0; 20; 0 8; 26; 22");
        x.last(routine, 3);
        for (long v : new long[] {0, 3, Long.MAX_VALUE, Long.MIN_VALUE}) {
            Due.due("run", x.run(routine, v, 0), 0);
            Due.due("what was put aside", x.result(), v);
            Due.due("it was done", x.output(0), 8);
            Due.told("it began", x, 0, NONE, NONE, 6, 0, 0, 1, 1);
        }
        int empty = Due.tell(x, 1, "0 4; 0 3; 20; 26; 22");
        x.last(empty, 3);
        Due.faults("the pile is emptied", x, empty, PILE, 3);
        int guarded = Due.tell(x, 1, "0 4; 20; 22");
        x.guard(guarded, 0, 3, 0, 0);
        x.last(guarded, 2);
        Due.gives("no guard is asked", x, guarded, 4);
        Due.due("none took", x.told(5), 0);
        Due.faults("a return without a number is a fault", x, Due.tell(x, 1, "20"), PILE, 0);
    }

    private static void returnEnds() {
        Due.says("Terms 4", "else the ROUTINE ends with x.");
        StoryClasses x = new StoryClasses();
        int routine = Due.tell(x, 1, "0 3; 20");
        Due.gives("no last", x, routine, 3);
        Due.due("nothing began", x.told(6), 0);
        x.last(routine, 2);
        Due.gives("no op there", x, routine, 3);
        Due.due("nothing began", x.told(6), 0);
        x.last(routine, 29);
        Due.gives("no op there", x, routine, 3);
        x.last(routine, 0);
        Due.gives("in last", x, routine, 3);
        Due.told("in last", x, 0, NONE, NONE, 4, 0, 0, 1, 1);
    }

    private static void leaves() {
        Due.says("Terms 4",
            "LEAVE: when LAST has begun, the ROUTINE ends with what was put aside (no GUARD "
            + "is asked);");
        StoryClasses x = new StoryClasses();
        int returns = Due.tell(x, 1, "0 3; 20; 0 9; 22; 0 8; 20");
        x.last(returns, 2);
        Due.gives("a number", x, returns, 3);
        int fails = Due.tell(x, 1, "0 9; 21; 0 7; 22; 0 8; 20");
        x.last(fails, 2);
        Due.faults("a fault", x, fails, OWN, 1);
        Due.due("its number", x.number(), 9);
        x.guard(fails, 2, 4, 0, 4);
        Due.faults("no guard is asked", x, fails, OWN, 1);
        Due.due("none took", x.told(5), 0);
        int outer = Due.tell(x, 1, "19 " + fails + " 0; 20; 26; 20");
        x.guard(outer, 0, 1, OWN, 2);
        Due.gives("but the caller's is", x, outer, 9);
        Due.due("its code", x.output(0), OWN);
        Due.told("but the caller's is", x, 0, NONE, NONE, 7, 1, 1, 1, 2);
        Due.gives("a number after a fault in the run before", x, returns, 3);
        int sum = Due.tell(x, 1, "19 " + returns + " 0; 19 " + returns + " 0; 3; 20");
        Due.gives("a number is laid at the call", x, sum, 6);
        // A GUARD may take a FAULT in LAST; what was put aside is left with all the same.
        int taken = Due.tell(x, 1, "0 3; 20; 14 0; 22; 22");
        x.last(taken, 2);
        x.guard(taken, 2, 3, NOTHING, 4);
        Due.gives("taken in last", x, taken, 3);
        Due.told("taken in last", x, 0, NONE, NONE, 4, 1, 1, 1, 1);
        int handler = Due.tell(x, 1, "0 9; 21; 22; 0 6; 20");
        x.last(handler, 2);
        x.guard(handler, 0, 2, OWN, 3);
        Due.gives("a handler's return begins last", x, handler, 6);
        Due.told("a handler's return begins last", x, 0, NONE, NONE, 5, 1, 1, 1, 1);
    }

    private static void leavesTooEarly() {
        Due.says("Terms 4", "else BEHIND.");
        StoryClasses x = new StoryClasses();
        Due.faults(x, "22", BEHIND, 0);
        int guarded = Due.tell(x, 1, "0 9; 21; 22");
        x.guard(guarded, 1, 2, 0, 2);
        Due.faults("a handler is no last", x, guarded, BEHIND, 2);
        int early = Due.tell(x, 1, "0 1; 22; 0 2; 22");
        x.last(early, 2);
        Due.faults("last is told, but has not begun", x, early, BEHIND, 1);
        Due.told("the fault begins it", x, BEHIND, early, 1, 4, 1, 0, 1, 1);
        // What the caller's LAST calls has not begun its own.
        int inner = Due.tell(x, 1, "22");
        int outer = Due.tell(x, 1, "0 1; 20; 19 " + inner + " 0; 22");
        x.last(outer, 2);
        Due.due("a called one's last has not begun", x.run(outer, 0, 0), 1);
        Due.told("a called one's last has not begun", x, BEHIND, inner, 0);
    }

    private static void inItsPlace() {
        Due.says("Terms 4",
            "(So a RETURN, or a FAULT that none TAKES, in LAST goes in the place of what was "
            + "put aside.)");
        StoryClasses x = new StoryClasses();
        int returned = Due.tell(x, 1, "0 3; 20; 0 4; 20; 22");
        x.last(returned, 2);
        Due.gives("a return for a return", x, returned, 4);
        int saved = Due.tell(x, 1, "0 9; 21; 0 4; 20; 22");
        x.last(saved, 2);
        Due.gives("a return for a fault", x, saved, 4);
        Due.told("a return for a fault", x, 0, NONE, NONE, 4, 1, 0, 1, 1);
        Due.due("no number", x.number(), 0);
        int spoilt = Due.tell(x, 1, "0 3; 20; 14 0; 22");
        x.last(spoilt, 2);
        Due.faults("a fault for a return", x, spoilt, NOTHING, 2);
        int other = Due.tell(x, 1, "0 9; 21; 14 0; 22");
        x.last(other, 2);
        Due.faults("a fault for a fault", x, other, NOTHING, 2);
        Due.due("no number", x.number(), 0);
        Due.told("both are counted", x, NOTHING, other, 2, 3, 2, 0, 1, 1);
        x.guard(other, 2, 3, NOTHING, 3);
        Due.faults("one that is taken does not", x, other, OWN, 1);
        Due.due("its number", x.number(), 9);
        Due.told("one that is taken does not", x, OWN, other, 1, 4, 2, 1, 1, 1);
        int outer = Due.tell(x, 1, "19 " + spoilt + " 0; 20; 26; 20");
        x.guard(outer, 0, 1, 0, 2);
        Due.gives("the caller's guard gets the one in its place", x, outer, 0);
        Due.due("its code", x.output(0), NOTHING);
    }
}
