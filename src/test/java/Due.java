/** What the tests share: the sentence that is looked at, comparing answers, telling routines. */
final class Due {
    private static String sentence = "";
    private static int wrong = 0;
    private static int asked = 0;
    private static int askedBefore = 0;

    private Due() { }

    /** The document's words to which what follows holds the class, and where they stand. */
    static void says(String where, String words) {
        closeSentence();
        sentence = where + " (" + words + "): ";
    }

    /** A sentence behind which nothing is looked at holds the class to nothing. */
    private static void closeSentence() {
        if (!sentence.isEmpty() && asked == askedBefore) wrong("nothing is looked at");
        askedBefore = asked;
        sentence = "";
    }

    private static void wrong(String what) {
        wrong++;
        System.out.println(sentence + what);
    }

    static void due(String call, long got, long want) {
        asked++;
        if (got != want) wrong(call + " answered " + got + ", due is " + want);
    }

    static void holds(String what, boolean is) {
        asked++;
        if (!is) wrong("not so: " + what);
    }

    static void end() {
        closeSentence();
        System.out.println(asked + " answers looked at, " + wrong + " not as due");
        if (wrong != 0 || asked == 0) System.exit(1);
    }

    /** A ROUTINE more, with OPS told as "op a b; op a b; ..", where numbers left out are 0. */
    static int tell(StoryClasses x, int locals, String ops) {
        int routine = x.routine(locals);
        if (routine < 0) wrong("no room for a routine: " + ops);
        more(x, routine, ops);
        return routine;
    }

    static void more(StoryClasses x, int routine, String ops) {
        for (String op : ops.split(";")) {
            String[] numbers = op.trim().split(" +");
            int place = x.op(routine, numberAt(numbers, 0), numberAt(numbers, 1),
                numberAt(numbers, 2));
            if (place < 0) wrong("op " + op + " of " + ops + " answered " + place);
        }
    }

    private static int numberAt(String[] numbers, int k) {
        return k < numbers.length ? Integer.parseInt(numbers[k]) : 0;
    }

    /** The same OPS several times. */
    static String times(int n, String ops) {
        StringBuilder all = new StringBuilder(ops);
        for (int k = 1; k < n; k++) all.append("; ").append(ops);
        return all.toString();
    }

    /** A RUN with 0, 0 that ends by a RETURN of that number. */
    static void gives(String what, StoryClasses x, int routine, long want) {
        due(what + ": run", x.run(routine, 0, 0), 0);
        due(what + ": result", x.result(), want);
        due(what + ": code", x.told(0), 0);
    }

    /** The same with a ROUTINE of its own. */
    static void gives(StoryClasses x, String ops, long want) {
        gives(ops, x, tell(x, 6, ops), want);
    }

    /** A RUN with 0, 0 that ends by that FAULT, which came first in that ROUTINE at that place. */
    static void faults(String what, StoryClasses x, int routine, int code, int place) {
        due(what + ": run", x.run(routine, 0, 0), 1);
        due(what + ": code", x.told(0), code);
        due(what + ": routine", x.told(1), routine);
        due(what + ": place", x.told(2), place);
        due(what + ": result", x.result(), 0);
    }

    /** The same with a ROUTINE of its own. */
    static void faults(StoryClasses x, String ops, int code, int place) {
        faults(ops, x, tell(x, 6, ops), code, place);
    }

    /** What is told of the latest RUN, from 0 on. */
    static void told(String what, StoryClasses x, int... want) {
        for (int k = 0; k < want.length; k++) due(what + ": told " + k, x.told(k), want[k]);
    }
}
