import java.util.Arrays;

/** Stories as routines over rows of memory and things of kinds that inherit, run step by step. */
public final class StoryClasses {
    public static final int NONE = -1, BAD = -1000000, FULL = -1000001;

    /** A refusal that tells a FAULT answers this less the FAULT's CODE. */
    private static final int REFUSED = -10;

    private final Story story;
    private final Machine machine;

    public StoryClasses() {
        story = new Story();
        machine = new Machine(story);
    }

    public int row(int r, int lane, int n) {
        if (!within(r, Memory.ROWS) || !within(lane, Row.LANES)) return BAD;
        int code = Row.sizeFault(n);
        if (code != 0) return REFUSED - code;
        story.memory.renew(r, lane, n);
        return n;
    }

    public int miss(int r) {
        if (!within(r, Memory.ROWS)) return BAD;
        return story.memory.drop(r) ? 1 : 0;
    }

    public int share(int r, int s) {
        if (!within(r, Memory.ROWS) || !within(s, Memory.ROWS)) return BAD;
        return story.memory.join(r, s) ? 1 : 0;
    }

    public int put(int r, int i, long v) {
        if (!within(r, Memory.ROWS)) return BAD;
        Row row = story.memory.rowAt(r);
        if (row == null) return REFUSED - Fault.NOTHING;
        if (!row.has(i)) return REFUSED - Fault.INDEX;
        row.write(i, v);
        return 1;
    }

    public long item(int r, int i) {
        Row row = story.memory.rowAt(r);
        return row == null ? 0 : row.read(i);
    }

    public int about(int r, int what) {
        if (!within(r, Memory.ROWS)) return BAD;
        Row row = story.memory.rowAt(r);
        switch (what) {
            case 0: return row == null ? NONE : row.size;
            case 1: return row == null ? NONE : row.lane;
            case 2: return story.memory.leastSame(r);
            default: return BAD;
        }
    }

    public int thing(int kind) {
        if (!within(kind, Thing.KINDS)) return BAD;
        return story.addThing(kind);
    }

    public int of(int t, int what) {
        Thing thing = story.thingAt(t);
        if (thing == null) return 0;
        switch (what) {
            case 0: return thing.kind;
            case 1: return thing.tally;
            case 2: return thing.mark;
            case 3: return thing.own;
            case 4: return thing.places;
            default: return what >= 5 && thing.hasPlace(what - 5) ? thing.lying(what - 5) : 0;
        }
    }

    public int routine(int locals) {
        if (locals < 1 || locals > Routine.MOST_LOCALS) return BAD;
        return story.addRoutine(locals);
    }

    public int op(int routine, int op, int a, int b) {
        Routine told = story.routineAt(routine);
        if (told == null || !Op.fits(op, a, b, told.locals)) return BAD;
        return told.addOp(op, a, b);
    }

    public int guard(int routine, int from, int to, int code, int handler) {
        Routine told = story.routineAt(routine);
        if (told == null || !Guard.fits(from, to, code, handler)) return BAD;
        return told.addGuard(from, to, code, handler);
    }

    public int last(int routine, int place) {
        Routine told = story.routineAt(routine);
        if (told == null || place != NONE && !within(place, Routine.MOST_OPS)) return BAD;
        int before = told.lastPlace;
        told.lastPlace = place;
        return before;
    }

    public int run(int routine, long x, long y) {
        Routine told = story.routineAt(routine);
        if (told == null || told.opCount == 0) return BAD;
        return machine.go(routine, told, x, y);
    }

    public long result() {
        return machine.returned;
    }

    public int told(int what) {
        boolean faulted = machine.how == Machine.FAULTED;
        switch (what) {
            case 0: return faulted ? machine.fault.code : 0;
            case 1: return faulted ? machine.fault.routine : NONE;
            case 2: return faulted ? machine.fault.place : NONE;
            case 3: return machine.steps;
            case 4: return machine.faults;
            case 5: return machine.guardsTook;
            case 6: return machine.lastsBegan;
            case 7: return machine.mostOpen;
            default: return BAD;
        }
    }

    public long number() {
        return machine.how == Machine.FAULTED ? machine.fault.number : 0;
    }

    public long output(int i) {
        return within(i, machine.outputCount) ? machine.outputs[i] : 0;
    }

    public int count(int what, int k) {
        switch (what) {
            case 0: return story.thingCount;
            case 1: return story.routineCount;
            case 2: return story.keptCount;
            case 3: return machine.outputCount;
            default: return countOfRoutine(what, story.routineAt(k));
        }
    }

    public int forget() {
        int gone = story.keptCount;
        story.keptCount = 0;
        return gone;
    }

    private static int countOfRoutine(int what, Routine told) {
        if (told == null) return BAD;
        switch (what) {
            case 4: return told.locals;
            case 5: return told.opCount;
            case 6: return told.guardCount;
            default: return BAD;
        }
    }

    /** Takes a long, so that a story's numbers are looked at before they are cut to ints. */
    private static boolean within(long value, int bound) {
        return value >= 0 && value < bound;
    }

    /** What was refused at an OP, and where that came first. CODE 0: nothing was. */
    private static final class Fault {
        static final int NOTHING = 1, INDEX = 2, CAST = 3, STORE = 4, SIZE = 5, ZERO = 6,
            ARGUMENT = 7, PILE = 8, DEEP = 9, BEHIND = 10, OWN = 11, DUMB = 12;
        static final int CODES = 13;

        int code;
        long number;
        int routine;
        int place;

        void become(int newCode, long newNumber, int newRoutine, int newPlace) {
            code = newCode;
            number = newNumber;
            routine = newRoutine;
            place = newPlace;
        }

        void copyFrom(Fault other) {
            become(other.code, other.number, other.routine, other.place);
        }
    }

    /**
     * One ROW. Its ITEMS are held as the numbers that they are: floats and doubles too, since they
     * only ever come from longs, and the number of such a one leads back to the same one.
     */
    private static final class Row {
        static final int TRUTHS = 0, BYTES = 1, SHORTS = 2, SIGNS = 3, INTS = 4, LONGS = 5,
            FLOATS = 6, DOUBLES = 7;
        static final int LANES = 8;
        static final int MOST_ITEMS = 12;

        int lane;
        int size;
        final long[] items;

        Row() {
            items = new long[MOST_ITEMS];
        }

        static int sizeFault(long n) {
            if (n < 0) return Fault.SIZE;
            return n > MOST_ITEMS ? Fault.ARGUMENT : 0;
        }

        /** The number that x is once it has been something of a LANE. */
        static long as(int lane, long x) {
            switch (lane) {
                case TRUTHS: return x & 1;
                case BYTES: return (byte) x;
                case SHORTS: return (short) x;
                case SIGNS: return (char) x;
                case INTS: return (int) x;
                case FLOATS: return (long) (float) x;
                case DOUBLES: return (long) (double) x;
                default: return x;
            }
        }

        static boolean goesInto(int from, int to) {
            switch (from) {
                case BYTES: return to == SHORTS || to >= INTS;
                case SHORTS: case SIGNS: return to >= INTS;
                case INTS: case LONGS: case FLOATS: return to > from;
                default: return false;
            }
        }

        void renew(int newLane, int newSize) {
            lane = newLane;
            size = newSize;
            Arrays.fill(items, 0L);
        }

        void copyFrom(Row other) {
            lane = other.lane;
            size = other.size;
            System.arraycopy(other.items, 0, items, 0, MOST_ITEMS);
        }

        boolean has(long i) {
            return i >= 0 && i < size;
        }

        long read(long i) {
            return has(i) ? items[(int) i] : 0;
        }

        void write(long i, long x) {
            if (has(i)) items[(int) i] = as(lane, x);
        }
    }

    /**
     * The ROWS 0 to 11: each tells which cell holds it, so that one ROW can be in several places.
     * There are as many cells as places, so a new ROW always finds one that no place needs.
     */
    private static final class Memory {
        static final int ROWS = 12;

        final int[] cellOf;
        final Row[] cells;

        Memory() {
            cellOf = new int[ROWS];
            Arrays.fill(cellOf, NONE);
            cells = new Row[ROWS];
            for (int c = 0; c < ROWS; c++) cells[c] = new Row();
        }

        /** Null: it is MISSING, or there is no such place. */
        Row rowAt(int r) {
            if (!within(r, ROWS)) return null;
            int cell = cellOf[r];
            return within(cell, ROWS) ? cells[cell] : null;
        }

        void renew(int r, int lane, int size) {
            cellOf[r] = NONE;
            int cell = freeCell();
            cellOf[r] = cell;
            cells[cell].renew(lane, size);
        }

        private int freeCell() {
            int used = 0;
            for (int r = 0; r < ROWS; r++) {
                if (cellOf[r] != NONE) used |= 1 << cellOf[r];
            }
            int cell = 0;
            while (cell < ROWS - 1 && (used >> cell & 1) == 1) cell++;
            return cell;
        }

        /** Whether that changed anything. */
        boolean drop(int r) {
            boolean was = cellOf[r] != NONE;
            cellOf[r] = NONE;
            return was;
        }

        /** Whether that changed anything. */
        boolean join(int r, int s) {
            boolean differed = cellOf[r] != cellOf[s];
            cellOf[r] = cellOf[s];
            return differed;
        }

        int leastSame(int r) {
            int least = 0;
            while (least < r && cellOf[least] != cellOf[r]) least++;
            return least;
        }

        void copyFrom(Memory other) {
            System.arraycopy(other.cellOf, 0, cellOf, 0, ROWS);
            for (int c = 0; c < ROWS; c++) cells[c].copyFrom(other.cells[c]);
        }
    }

    /** A THING of any KIND. Its tally is what the document calls its COUNT. */
    private static final class Thing {
        static final int BOX = 0, CRATE = 1, CAGE = 2, CART = 3, LAMP = 4, LANTERN = 5;
        static final int KINDS = 6;
        static final int WEIGH = 0, TAKE = 1, GLOW = 2, OPEN = 3, TELL_MARK = 4, TELL_OWN = 5,
            SET_MARK = 6, SET_CRATE = 7, SET_LANTERN = 8;
        static final int MESSAGES = 9;
        static final int MOST_PLACES = 4;
        static final int MOST_IN_CRATE = 9, TOO_MUCH = 50;

        final int kind;
        final int places;
        final int[] shelf;
        int tally;
        int mark;
        int own;
        /** What the latest MESSAGE was answered; with OWN, what was thrown. */
        int answer;

        Thing(int kind) {
            this.kind = kind;
            places = kind == BOX ? MOST_PLACES : kind <= CART ? 3 : 2;
            shelf = new int[MOST_PLACES];
            Arrays.fill(shelf, NONE);
        }

        static boolean bringsNumber(int message) {
            return message == TAKE || message >= SET_MARK;
        }

        boolean isCrate() {
            return kind >= CRATE && kind <= CART;
        }

        boolean isCage() {
            return kind == CAGE || kind == CART;
        }

        boolean isLamp() {
            return kind >= LAMP;
        }

        /** The CODE of the FAULT that the MESSAGE tells, or 0. */
        int hear(int message, int n) {
            switch (message) {
                case WEIGH: answer = weight(); return 0;
                case TAKE: return take(n);
                case GLOW: return glow();
                case OPEN: return open();
                case TELL_MARK: answer = mark; return 0;
                case TELL_OWN: answer = own; return isCrate() ? 0 : Fault.CAST;
                case SET_MARK: answer = mark; mark = n; return 0;
                case SET_CRATE: return isCrate() ? changeOwn(n) : Fault.CAST;
                case SET_LANTERN: default: return kind == LANTERN ? changeOwn(n) : Fault.CAST;
            }
        }

        private int weight() {
            int ofBox = 2 + tally;
            switch (kind) {
                case CRATE: case CAGE: return 2 * ofBox;
                case CART: return 2 * ofBox + 1;
                case LANTERN: return ofBox - own;
                default: return ofBox;
            }
        }

        private int take(int n) {
            if (isCage()) own++;
            if (isCrate() && tally + n > MOST_IN_CRATE) {
                answer = TOO_MUCH;
                return Fault.OWN;
            }
            tally += n;
            if (isLamp()) mark = n;
            answer = kind == LANTERN ? mark : tally;
            return 0;
        }

        private int glow() {
            if (!isLamp()) return Fault.CAST;
            answer = kind == LANTERN ? 3 * tally : weight() + 5;
            return 0;
        }

        private int open() {
            if (!isCrate()) return Fault.DUMB;
            answer = isCage() ? own + 100 : own;
            return 0;
        }

        private int changeOwn(int n) {
            answer = own;
            own = n;
            return 0;
        }

        boolean hasPlace(long i) {
            return within(i, places);
        }

        /** Whether the SHELF has places for such as the other. */
        boolean hasPlaceFor(Thing other) {
            if (kind == BOX) return true;
            return isLamp() ? other.isLamp() : other.isCrate();
        }

        int lying(long i) {
            return hasPlace(i) ? shelf[(int) i] : NONE;
        }

        void place(long i, int t) {
            if (hasPlace(i)) shelf[(int) i] = t;
        }

        void copyFrom(Thing other) {
            tally = other.tally;
            mark = other.mark;
            own = other.own;
            System.arraycopy(other.shelf, 0, shelf, 0, MOST_PLACES);
        }
    }

    /** What one KEEPING holds: copies made once and written over by the KEEPINGS that follow. */
    private static final class Kept {
        final Memory memory;
        final Thing[] things;
        int thingCount;

        Kept() {
            memory = new Memory();
            things = new Thing[Story.MOST_THINGS];
            for (int t = 0; t < Story.MOST_THINGS; t++) things[t] = new Thing(Thing.BOX);
        }
    }

    /** All that has been told: memory, THINGS, ROUTINES, and what is KEPT. */
    private static final class Story {
        static final int MOST_THINGS = 12, MOST_ROUTINES = 12, MOST_KEPT = 3;

        final Memory memory;
        final Thing[] things;
        int thingCount;
        final Routine[] routines;
        int routineCount;
        final Kept[] kept;
        int keptCount;

        Story() {
            memory = new Memory();
            things = new Thing[MOST_THINGS];
            routines = new Routine[MOST_ROUTINES];
            kept = new Kept[MOST_KEPT];
            for (int k = 0; k < MOST_KEPT; k++) kept[k] = new Kept();
        }

        int addThing(int kind) {
            if (thingCount >= MOST_THINGS) return FULL;
            things[thingCount] = new Thing(kind);
            return thingCount++;
        }

        int addRoutine(int locals) {
            if (routineCount >= MOST_ROUTINES) return FULL;
            routines[routineCount] = new Routine(locals);
            return routineCount++;
        }

        /** Null: there is no such THING. */
        Thing thingAt(long t) {
            return within(t, thingCount) ? things[(int) t] : null;
        }

        /** Null: there is no such ROUTINE. */
        Routine routineAt(int k) {
            return within(k, routineCount) ? routines[k] : null;
        }

        /** False: as many are KEPT as can be. */
        boolean keep() {
            if (keptCount >= MOST_KEPT) return false;
            Kept next = kept[keptCount];
            next.memory.copyFrom(memory);
            next.thingCount = thingCount;
            for (int t = 0; t < thingCount; t++) next.things[t].copyFrom(things[t]);
            keptCount++;
            return true;
        }

        /** False: none is KEPT. */
        boolean bringBack() {
            if (keptCount == 0) return false;
            keptCount--;
            Kept latest = kept[keptCount];
            memory.copyFrom(latest.memory);
            for (int t = 0; t < latest.thingCount; t++) things[t].copyFrom(latest.things[t]);
            return true;
        }
    }

    /** An OP: what it does (its code), and its numbers a, b. */
    private static final class Op {
        static final int LAY = 0, GET = 1, SET = 2, ADD = 3, LESS = 4, TIMES = 5, DIVIDE = 6,
            REST = 7, BELOW = 8, SAME = 9, GO = 10, GO_IF_ZERO = 11;
        static final int READ = 12, WRITE = 13, LENGTH = 14, RENEW = 15, DROP = 16, ASK = 17,
            FEED = 18, JOIN = 29;
        static final int CALL = 19, RETURN = 20, FAIL = 21, LEAVE = 22;
        static final int SEND = 23, SHELVE = 24, LOOK = 25;
        static final int PRINT = 26, KEEP = 27, BRING_BACK = 28;
        static final int CODES = 30;

        final int code;
        final int a;
        final int b;

        Op(int code, int a, int b) {
            this.code = code;
            this.a = a;
            this.b = b;
        }

        static boolean fits(int code, int a, int b, int locals) {
            switch (code) {
                case GET: case SET: return within(a, locals);
                case GO: case GO_IF_ZERO: return within(a, Routine.MOST_OPS);
                case READ: case WRITE: case RENEW: case ASK: case FEED:
                    return within(a, Memory.ROWS) && within(b, Row.LANES);
                case LENGTH: case DROP: return within(a, Memory.ROWS);
                case JOIN: return within(a, Memory.ROWS) && within(b, Memory.ROWS);
                case CALL:
                    return within(a, Story.MOST_ROUTINES) && within(b, Routine.MOST_LOCALS + 1);
                case SEND: return within(a, Thing.MESSAGES);
                default: return within(code, CODES);
            }
        }

        /** How many numbers it takes from the PILE. */
        int needs() {
            switch (code) {
                case SET: case GO_IF_ZERO: case READ: case RENEW: case ASK:
                case RETURN: case FAIL: case PRINT:
                    return 1;
                case ADD: case LESS: case TIMES: case DIVIDE: case REST: case BELOW: case SAME:
                case WRITE: case FEED: case LOOK:
                    return 2;
                case SHELVE: return 3;
                case SEND: return Thing.bringsNumber(a) ? 2 : 1;
                case CALL: return b;
                default: return 0;
            }
        }

        /** Whether it lays its answer itself (a CALL's is laid when what it called RETURNS). */
        boolean lays() {
            switch (code) {
                case LAY: case GET: case ADD: case LESS: case TIMES: case DIVIDE: case REST:
                case BELOW: case SAME: case READ: case LENGTH: case ASK: case SEND: case LOOK:
                case KEEP: case BRING_BACK:
                    return true;
                default: return false;
            }
        }
    }

    private static final class Guard {
        final int from;
        final int to;
        final int code;
        final int handler;

        Guard(int from, int to, int code, int handler) {
            this.from = from;
            this.to = to;
            this.code = code;
            this.handler = handler;
        }

        static boolean fits(int from, int to, int code, int handler) {
            return from >= 0 && from < to && to <= Routine.MOST_OPS
                && within(code, Fault.CODES) && within(handler, Routine.MOST_OPS);
        }

        boolean minds(int place, int faultCode) {
            return place >= from && place < to && (code == 0 || code == faultCode);
        }
    }

    private static final class Routine {
        static final int MOST_LOCALS = 6, MOST_OPS = 30, MOST_GUARDS = 4;

        final int locals;
        final Op[] ops;
        int opCount;
        final Guard[] guards;
        int guardCount;
        int lastPlace;

        Routine(int locals) {
            this.locals = locals;
            ops = new Op[MOST_OPS];
            guards = new Guard[MOST_GUARDS];
            lastPlace = NONE;
        }

        int addOp(int code, int a, int b) {
            if (opCount >= MOST_OPS) return FULL;
            ops[opCount] = new Op(code, a, b);
            return opCount++;
        }

        int addGuard(int from, int to, int code, int handler) {
            if (guardCount >= MOST_GUARDS) return FULL;
            guards[guardCount] = new Guard(from, to, code, handler);
            return guardCount++;
        }
    }

    /** A ROUTINE that is open. The machine has one for each that can be, and uses them again. */
    private static final class Frame {
        static final int MOST_LAID = 8;

        int number;
        Routine routine;
        final long[] locals;
        final long[] pile;
        int laid;
        /** Where it is, the OP there, and where it goes on after that. */
        int place;
        Op now;
        int next;
        /** What the OP took, in the order in which that was laid. */
        long x;
        long y;
        long z;
        /** What the OP lays; with OWN, what was thrown. */
        long answer;
        boolean lastBegan;
        /** What is put aside for LEAVE: the FAULT, or if that has no CODE what is RETURNED. */
        final Fault asideFault;
        long asideResult;

        Frame() {
            locals = new long[Routine.MOST_LOCALS];
            pile = new long[MOST_LAID];
            asideFault = new Fault();
        }

        void begin(int newNumber, Routine newRoutine) {
            number = newNumber;
            routine = newRoutine;
            Arrays.fill(locals, 0L);
            laid = 0;
            lastBegan = false;
        }

        /** False: there is no OP at that place. */
        boolean goTo(int newPlace) {
            if (newPlace < 0 || newPlace >= routine.opCount) return false;
            place = newPlace;
            now = routine.ops[newPlace];
            next = newPlace + 1;
            return true;
        }

        /** False: there are too few. */
        boolean take(int n) {
            if (laid < n) return false;
            laid -= n;
            x = n > 0 ? pile[laid] : 0;
            y = n > 1 ? pile[laid + 1] : 0;
            z = n > 2 ? pile[laid + 2] : 0;
            return true;
        }

        boolean hasRoom() {
            return laid < MOST_LAID;
        }

        /** False: there is no room. */
        boolean lay(long v) {
            if (!hasRoom()) return false;
            pile[laid] = v;
            laid++;
            return true;
        }

        /** False: no GUARD minds it. */
        boolean giveToGuard(Fault fault) {
            for (int k = 0; k < routine.guardCount; k++) {
                Guard guard = routine.guards[k];
                if (guard.minds(place, fault.code) && goTo(guard.handler)) {
                    laid = 0;
                    lay(fault.number);
                    lay(fault.code);
                    return true;
                }
            }
            return false;
        }

        /** False: LAST can't begin. */
        boolean beginLast() {
            if (lastBegan || !goTo(routine.lastPlace)) return false;
            lastBegan = true;
            laid = 0;
            return true;
        }
    }

    /** Does a RUN, and tells of the latest one. */
    private static final class Machine {
        static final int RETURNED = 0, FAULTED = 1, SPENT = 2, GOING = 3, NEVER = 4;
        static final int MOST_OPEN = 12, MOST_STEPS = 300, MOST_FAULTS = 25, MOST_OUTPUTS = 60,
            MOST_KEEPINGS = 6;
        /** No CODE: the OP has led to where the RUN goes on, or ends, by itself. */
        static final int ELSEWHERE = -1;

        final Story story;
        final Frame[] frames;
        final long[] outputs;
        final Fault fault;
        int open;
        int outputCount;
        int how;
        long returned;
        int steps;
        int faults;
        int guardsTook;
        int lastsBegan;
        int mostOpen;
        int keepings;

        Machine(Story story) {
            this.story = story;
            frames = new Frame[MOST_OPEN];
            for (int k = 0; k < MOST_OPEN; k++) frames[k] = new Frame();
            outputs = new long[MOST_OUTPUTS];
            fault = new Fault();
            how = NEVER;
        }

        int go(int number, Routine routine, long x, long y) {
            beginAnew();
            Frame first = openFrame(number, routine);
            first.locals[0] = x;
            if (routine.locals > 1) first.locals[1] = y;
            while (how == GOING && steps < MOST_STEPS) {
                steps++;
                step(frames[open - 1]);
            }
            if (how == GOING) how = SPENT;
            return how;
        }

        private void beginAnew() {
            how = GOING;
            open = 0;
            outputCount = 0;
            returned = 0;
            steps = 0;
            faults = 0;
            guardsTook = 0;
            lastsBegan = 0;
            mostOpen = 0;
            keepings = 0;
        }

        /** The ROUTINE has OPS, and there is a frame left. */
        private Frame openFrame(int number, Routine routine) {
            Frame f = frames[open];
            f.begin(number, routine);
            f.goTo(0);
            open++;
            mostOpen = Math.max(mostOpen, open);
            return f;
        }

        private void step(Frame f) {
            Op op = f.now;
            fault.code = 0;
            int code = f.take(op.needs()) ? perform(f, op) : Fault.PILE;
            if (code == 0 && op.lays() && !f.lay(f.answer)) code = Fault.PILE;
            if (code == 0 && !goOn()) code = Fault.BEHIND;
            if (code > 0) raise(code, code == Fault.OWN ? f.answer : 0);
            if (faults >= MOST_FAULTS) how = SPENT;
            else if (fault.code != 0) carryOut();
        }

        /** After a RETURN it is the caller that is open latest, and goes on behind its CALL. */
        private boolean goOn() {
            Frame f = frames[open - 1];
            return f.goTo(f.next);
        }

        /** A FAULT comes at the OP of the ROUTINE opened latest. */
        private void raise(int code, long number) {
            Frame f = frames[open - 1];
            fault.become(code, number, f.number, f.place);
            faults++;
        }

        /** Brings the FAULT outward, until a ROUTINE goes on with it or all have ended. */
        private void carryOut() {
            while (open > 0) {
                Frame f = frames[open - 1];
                if (f.giveToGuard(fault)) {
                    guardsTook++;
                    return;
                }
                if (f.beginLast()) {
                    lastsBegan++;
                    f.asideFault.copyFrom(fault);
                    return;
                }
                open--;
            }
            how = FAULTED;
        }

        /** The CODE of the FAULT that comes; 0: it goes on at the next place; or ELSEWHERE. */
        private int perform(Frame f, Op op) {
            switch (op.code) {
                case Op.LAY: f.answer = op.a; return 0;
                case Op.GET: f.answer = f.locals[op.a]; return 0;
                case Op.SET: f.locals[op.a] = f.x; return 0;
                case Op.ADD: f.answer = f.x + f.y; return 0;
                case Op.LESS: f.answer = f.x - f.y; return 0;
                case Op.TIMES: f.answer = f.x * f.y; return 0;
                case Op.DIVIDE: case Op.REST: return divide(f, op);
                case Op.BELOW: f.answer = f.x < f.y ? 1 : 0; return 0;
                case Op.SAME: f.answer = f.x == f.y ? 1 : 0; return 0;
                case Op.GO: f.next = op.a; return 0;
                case Op.GO_IF_ZERO: if (f.x == 0) f.next = op.a; return 0;
                case Op.READ: case Op.WRITE: case Op.LENGTH: case Op.ASK: case Op.FEED:
                    return useRow(f, op);
                case Op.RENEW: return renewRow(f, op);
                case Op.DROP: story.memory.drop(op.a); return 0;
                case Op.JOIN: story.memory.join(op.a, op.b); return 0;
                case Op.CALL: return enter(f, op);
                case Op.RETURN: return giveBack(f);
                case Op.FAIL: f.answer = f.x; return Fault.OWN;
                case Op.LEAVE: return leave(f);
                case Op.SEND: return send(f, op);
                case Op.SHELVE: return shelve(f);
                case Op.LOOK: return look(f);
                case Op.PRINT: print(f.x); return 0;
                case Op.KEEP:
                    if (keepings >= MOST_KEEPINGS || !story.keep()) return Fault.ARGUMENT;
                    keepings++;
                    f.answer = story.keptCount;
                    return 0;
                case Op.BRING_BACK: default: f.answer = story.bringBack() ? 1 : 0; return 0;
            }
        }

        private static int divide(Frame f, Op op) {
            if (f.y == 0) return Fault.ZERO;
            f.answer = op.code == Op.DIVIDE ? f.x / f.y : f.x % f.y;
            return 0;
        }

        private int useRow(Frame f, Op op) {
            Row row = story.memory.rowAt(op.a);
            if (row == null) return Fault.NOTHING;
            switch (op.code) {
                case Op.LENGTH: f.answer = row.size; return 0;
                case Op.READ: case Op.WRITE: return useHeld(f, op, row);
                default: return useConverted(f, op, row);
            }
        }

        private static int useHeld(Frame f, Op op, Row row) {
            if (row.lane != op.b) return Fault.CAST;
            if (!row.has(f.x)) return Fault.INDEX;
            if (op.code == Op.READ) f.answer = row.read(f.x);
            else row.write(f.x, f.y);
            return 0;
        }

        private static int useConverted(Frame f, Op op, Row row) {
            if (!row.has(f.x)) return Fault.INDEX;
            boolean asks = op.code == Op.ASK;
            int from = asks ? row.lane : op.b;
            int to = asks ? op.b : row.lane;
            if (from != to && !Row.goesInto(from, to)) return Fault.ARGUMENT;
            if (asks) f.answer = Row.as(op.b, row.read(f.x));
            else row.write(f.x, Row.as(op.b, f.y));
            return 0;
        }

        private int renewRow(Frame f, Op op) {
            int code = Row.sizeFault(f.x);
            if (code == 0) story.memory.renew(op.a, op.b, (int) f.x);
            return code;
        }

        /** The numbers that were taken still lie behind the PILE's end. */
        private int enter(Frame f, Op op) {
            if (!f.hasRoom()) return Fault.PILE;
            Routine called = story.routineAt(op.a);
            if (called == null || called.opCount == 0) return Fault.NOTHING;
            if (op.b > called.locals) return Fault.ARGUMENT;
            if (open >= MOST_OPEN) return Fault.DEEP;
            Frame inner = openFrame(op.a, called);
            System.arraycopy(f.pile, f.laid, inner.locals, 0, op.b);
            return ELSEWHERE;
        }

        private int giveBack(Frame f) {
            if (!f.beginLast()) return endWith(f.x);
            lastsBegan++;
            f.asideFault.code = 0;
            f.asideResult = f.x;
            return ELSEWHERE;
        }

        private int leave(Frame f) {
            if (!f.lastBegan) return Fault.BEHIND;
            if (f.asideFault.code == 0) return endWith(f.asideResult);
            fault.copyFrom(f.asideFault);
            open--;
            return ELSEWHERE;
        }

        /** The ROUTINE opened latest ends with a number. */
        private int endWith(long x) {
            open--;
            if (open > 0) return frames[open - 1].lay(x) ? 0 : Fault.PILE;
            returned = x;
            how = RETURNED;
            return ELSEWHERE;
        }

        private int send(Frame f, Op op) {
            Thing thing = story.thingAt(f.x);
            if (thing == null) return Fault.NOTHING;
            int code = thing.hear(op.a, (int) f.y);
            f.answer = thing.answer;
            return code;
        }

        private int shelve(Frame f) {
            Thing thing = story.thingAt(f.x);
            Thing other = story.thingAt(f.z);
            if (thing == null || other == null && f.z != NONE) return Fault.NOTHING;
            if (!thing.hasPlace(f.y)) return Fault.INDEX;
            if (other != null && !thing.hasPlaceFor(other)) return Fault.STORE;
            thing.place(f.y, (int) f.z);
            return 0;
        }

        private int look(Frame f) {
            Thing thing = story.thingAt(f.x);
            if (thing == null) return Fault.NOTHING;
            if (!thing.hasPlace(f.y)) return Fault.INDEX;
            f.answer = thing.lying(f.y);
            return 0;
        }

        private void print(long x) {
            if (outputCount >= MOST_OUTPUTS) return;
            outputs[outputCount] = x;
            outputCount++;
        }
    }
}
