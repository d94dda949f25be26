/** Promises 1 to 7: a new object, row, miss, share, put, item, about. */
final class MemoryTest {
    private static final int BAD = StoryClasses.BAD, NONE = StoryClasses.NONE;
    private static final long MOST = Long.MAX_VALUE, LEAST = Long.MIN_VALUE;

    private MemoryTest() { }

    public static void main(String[] args) {
        newObject();
        rows();
        missing();
        shared();
        puts();
        lanes();
        about();
        Due.end();
    }

    private static void newObject() {
        StoryClasses x = new StoryClasses();
        for (int r = 0; r < 12; r++) {
            Due.due("new about 0", x.about(r, 0), NONE);
            Due.due("new about 1", x.about(r, 1), NONE);
            Due.due("new about 2", x.about(r, 2), 0);
            Due.due("new item", x.item(r, 0), 0);
        }
        for (int what = 0; what < 4; what++) Due.due("new count", x.count(what, 0), 0);
        for (int what = 4; what < 7; what++) Due.due("new count", x.count(what, 0), BAD);
        for (int what = 0; what < 8; what++) {
            Due.due("new told " + what, x.told(what), what == 1 || what == 2 ? NONE : 0);
        }
        Due.due("new told -1", x.told(-1), BAD);
        Due.due("new result", x.result(), 0);
        Due.due("new number", x.number(), 0);
        Due.due("new output", x.output(0), 0);
        Due.due("new forget", x.forget(), 0);
        Due.due("new run", x.run(0, 0, 0), BAD);
        Due.due("new of", x.of(0, 4), 0);
    }

    private static void rows() {
        StoryClasses x = new StoryClasses();
        Due.due("no items", x.row(0, 0, 0), 0);
        Due.due("about none", x.about(0, 0), 0);
        Due.due("twelve items", x.row(11, 7, 12), 12);
        Due.due("its lane", x.about(11, 1), 7);
        x.put(11, 3, 9);
        Due.due("thirteen items", x.row(11, 4, 13), -17);
        Due.due("the most items", x.row(11, 4, Integer.MAX_VALUE), -17);
        Due.due("below none", x.row(11, 4, -1), -15);
        Due.due("the least", x.row(11, 4, Integer.MIN_VALUE), -15);
        Due.due("no such row", x.row(12, 4, 3), BAD);
        Due.due("no such row", x.row(-1, 4, -1), BAD);
        Due.due("no such lane", x.row(11, 8, 13), BAD);
        Due.due("no such lane", x.row(11, -1, 3), BAD);
        Due.due("a refused one changes nothing", x.about(11, 1), 7);
        Due.due("a refused one changes nothing", x.item(11, 3), 9);
        Due.due("a new one", x.row(11, 7, 4), 4);
        Due.due("a new one has zeros", x.item(11, 3), 0);
    }

    private static void missing() {
        StoryClasses x = new StoryClasses();
        Due.due("it was missing", x.miss(3), 0);
        x.row(3, 1, 2);
        Due.due("it was not", x.miss(3), 1);
        Due.due("it is now", x.miss(3), 0);
        Due.due("about it", x.about(3, 0), NONE);
        Due.due("no such row", x.miss(12), BAD);
        Due.due("no such row", x.miss(-1), BAD);
    }

    private static void shared() {
        StoryClasses x = new StoryClasses();
        Due.due("both missing", x.share(1, 2), 0);
        x.row(2, 4, 3);
        Due.due("becomes it", x.share(1, 2), 1);
        Due.due("was it", x.share(1, 2), 0);
        Due.due("was it, the other way", x.share(2, 1), 0);
        Due.due("itself", x.share(2, 2), 0);
        x.put(1, 0, 42);
        Due.due("the same one", x.item(2, 0), 42);
        Due.due("miss one place", x.miss(2), 1);
        Due.due("the other place stays", x.item(1, 0), 42);
        x.share(2, 1);
        x.row(1, 5, 1);
        Due.due("a new one is another", x.item(2, 0), 42);
        Due.due("becomes missing", x.share(2, 0), 1);
        Due.due("is missing", x.about(2, 0), NONE);
        Due.due("no such row", x.share(12, 0), BAD);
        Due.due("no such row", x.share(0, 12), BAD);
        Due.due("no such row", x.share(-1, 0), BAD);
        Due.due("no such row", x.share(0, -1), BAD);
        everyPlaceItsOwn(x);
    }

    private static void everyPlaceItsOwn(StoryClasses x) {
        for (int r = 0; r < 12; r++) {
            x.row(r, 5, 12);
            x.put(r, 11, 100 + r);
        }
        for (int r = 0; r < 12; r++) Due.due("row " + r, x.item(r, 11), 100 + r);
        x.row(3, 1, 12);
        x.put(3, 11, 103);
        for (int r = 0; r < 12; r++) Due.due("row " + r, x.item(r, 11), 100 + r);
        for (int r = 1; r < 12; r++) x.share(r, 0);
        x.row(0, 5, 12);
        x.put(0, 11, 7);
        for (int r = 1; r < 12; r++) Due.due("shared row " + r, x.item(r, 11), 100);
        for (int r = 1; r < 12; r++) Due.due("least of " + r, x.about(r, 2), 1);
    }

    private static void puts() {
        StoryClasses x = new StoryClasses();
        Due.due("nothing", x.put(0, 0, 1), -11);
        Due.due("nothing before index", x.put(0, -1, 1), -11);
        x.row(0, 5, 2);
        Due.due("put", x.put(0, 1, MOST), 1);
        Due.due("item", x.item(0, 1), MOST);
        Due.due("below", x.put(0, -1, 1), -12);
        Due.due("above", x.put(0, 2, 1), -12);
        Due.due("far above", x.put(0, Integer.MAX_VALUE, 1), -12);
        Due.due("no such row", x.put(12, 0, 1), BAD);
        Due.due("no such row", x.put(-1, 0, 1), BAD);
        Due.due("no such item", x.item(0, 2), 0);
        Due.due("no such item", x.item(0, -1), 0);
        Due.due("no item of no row", x.item(12, 0), 0);
        Due.due("no item of no row", x.item(-1, 0), 0);
        Due.due("no item of a missing row", x.item(1, 0), 0);
        x.row(2, 5, 0);
        Due.due("no items at all", x.put(2, 0, 1), -12);
    }

    private static void lane(StoryClasses x, int lane, long v, long want) {
        x.row(0, lane, 1);
        x.put(0, 0, v);
        Due.due("lane " + lane + " of " + v, x.item(0, 0), want);
    }

    private static void lanes() {
        StoryClasses x = new StoryClasses();
        lane(x, 0, 3, 1);
        lane(x, 0, 2, 0);
        lane(x, 0, -1, 1);
        lane(x, 1, 128, -128);
        lane(x, 1, -129, 127);
        lane(x, 2, 32768, -32768);
        lane(x, 2, 65535 + 6, 5);
        lane(x, 3, -1, 65535);
        lane(x, 3, 65536, 0);
        lane(x, 4, 1L << 31, Integer.MIN_VALUE);
        lane(x, 4, LEAST, 0);
        lane(x, 5, LEAST, LEAST);
        lane(x, 6, 16777217, 16777216);
        lane(x, 6, 16777219, 16777220);
        lane(x, 6, -16777217, -16777216);
        lane(x, 6, MOST, MOST);
        lane(x, 6, LEAST, LEAST);
        lane(x, 7, (1L << 53) + 1, 1L << 53);
        lane(x, 7, (1L << 53) + 3, (1L << 53) + 4);
        lane(x, 7, MOST, MOST);
        lane(x, 7, MOST - 1000, MOST - 1023);
        lane(x, 7, LEAST + 1, LEAST);
    }

    private static void about() {
        StoryClasses x = new StoryClasses();
        x.row(4, 3, 6);
        x.share(9, 4);
        x.row(0, 3, 6);
        Due.due("items", x.about(9, 0), 6);
        Due.due("lane", x.about(9, 1), 3);
        Due.due("least", x.about(9, 2), 4);
        Due.due("least is itself", x.about(0, 2), 0);
        Due.due("least missing", x.about(11, 2), 1);
        Due.due("what above", x.about(9, 3), BAD);
        Due.due("what below", x.about(9, -1), BAD);
        Due.due("what of a missing one", x.about(5, 3), BAD);
        Due.due("no such row", x.about(12, 0), BAD);
        Due.due("no such row", x.about(-1, 0), BAD);
    }
}
