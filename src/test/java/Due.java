/** What the tests share: comparing answers, and telling routines in one line. */
final class Due {
    private static int wrong = 0;
    private static int asked = 0;

    private Due() { }

    static void due(String call, long got, long want) {
        asked++;
        if (got == want) return;
        wrong++;
        System.out.println(call + " answered " + got + ", due is " + want);
    }

    static void holds(String what, boolean is) {
        asked++;
        if (is) return;
        wrong++;
        System.out.println("not so: " + what);
    }

    static void end() {
        System.out.println(asked + " answers looked at, " + wrong + " not as due");
        if (wrong != 0 || asked == 0) System.exit(1);
    }

    /** A ROUTINE more, with OPS told as threes of op, a, b. */
    static int tell(StoryClasses x, int locals, int... threes) {
        int routine = x.routine(locals);
        more(x, routine, threes);
        return routine;
    }

    static void more(StoryClasses x, int routine, int... threes) {
        for (int k = 0; k + 2 < threes.length; k += 3) {
            int place = x.op(routine, threes[k], threes[k + 1], threes[k + 2]);
            holds("op " + threes[k] + " is taken", place >= 0);
        }
    }

    /** A RUN that ends by a RETURN of that number. */
    static void gives(String what, StoryClasses x, int routine, long want) {
        due(what + ": run", x.run(routine, 0, 0), 0);
        due(what + ": result", x.result(), want);
        due(what + ": no code", x.told(0), 0);
    }

    /** A RUN that ends by that FAULT, which came first in that ROUTINE at that place. */
    static void faults(String what, StoryClasses x, int routine, int code, int place) {
        due(what + ": run", x.run(routine, 0, 0), 1);
        due(what + ": code", x.told(0), code);
        due(what + ": routine", x.told(1), routine);
        due(what + ": place", x.told(2), place);
        due(what + ": result", x.result(), 0);
    }
}
