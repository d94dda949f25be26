/** All that can be seen of an object without changing it, as a text: two can be compared. */
final class Seen {
    private static final int ROWS = 12, ITEMS = 12, THINGS = 12, ROUTINES = 12;

    private Seen() { }

    /** ROWS, THINGS and how many are KEPT: what a RUN can change for good. */
    static String world(StoryClasses x) {
        StringBuilder s = new StringBuilder();
        for (int r = 0; r < ROWS; r++) {
            s.append("\nrow ").append(r);
            for (int what = 0; what < 3; what++) s.append(' ').append(x.about(r, what));
            s.append(':');
            int items = x.about(r, 0);
            for (int i = 0; i < Math.min(items, ITEMS); i++) s.append(' ').append(x.item(r, i));
        }
        for (int t = 0; t < THINGS; t++) {
            s.append("\nthing ").append(t);
            for (int what = 0; what < 9; what++) s.append(' ').append(x.of(t, what));
        }
        return s.append("\nkept ").append(x.count(2, 0)).toString();
    }

    /** That, ROUTINES, and what is told of the latest RUN. */
    static String all(StoryClasses x) {
        StringBuilder s = new StringBuilder(world(x));
        s.append("\ncounts ").append(x.count(0, 0)).append(' ').append(x.count(1, 0));
        for (int k = 0; k < ROUTINES; k++) {
            s.append("\nroutine ").append(k);
            for (int what = 4; what < 7; what++) s.append(' ').append(x.count(what, k));
        }
        s.append("\nrun ").append(x.result()).append(' ').append(x.number());
        for (int what = 0; what < 8; what++) s.append(' ').append(x.told(what));
        int outputs = x.count(3, 0);
        s.append("\noutput ").append(outputs).append(':');
        for (int i = 0; i < outputs; i++) s.append(' ').append(x.output(i));
        return s.toString();
    }
}
