import java.util.Arrays;

/**
 * Cells and rows that several threads change by turns. The promises are in the project's document;
 * words in capitals are its terms.
 */
public final class MutableCells {
    public static final int NONE = -1, OUTSIDE = -2, STATE = -3, ROOM = -4;

    private static final int CELLS = 8, ROWS = 4, ITEMS = 8;
    private static final int THREADS = 3, ACTS = 24, REGISTERS = 4, TRYS = 4;
    private static final int WRITES_KEPT = 30, MOST_PLAYED = 100, MOST_FAILURES = 5000;

    // What a THREAD is.
    private static final int GOES = 0, ENDED = 1, FAILED = 2;

    // The KINDS of ACTS.
    private static final int SET = 0, GET = 1, PUT = 2, ADD = 3, SUB = 4, MUL = 5, DIV = 6;
    private static final int LOAD = 7, STORE = 8, SWAP = 9, JUMP = 10, JUMP0 = 11;
    private static final int BEGIN = 12, END = 13, TRY = 14, DONE = 15, THROW = 16;
    private static final int MAKE = 17, FREEZE = 18, LAZY = 19;

    // The numbers of FAILURES; 0 is no FAILURE's number, so it tells of an ACT that did not fail.
    private static final int FINE = 0, ROW_IS_NOTHING = 1, BY_ZERO = 2, NO_SUCH_ITEM = 3;
    private static final int ROW_IS_FROZEN = 4, MISPLACED = 5, BELOW_ZERO = 6, TOO_MANY = 7;
    private static final int RING = 8, THROWN = 10;

    private final Cells cells = new Cells();
    private final Rows rows = new Rows();
    private final Strand[] strands = new Strand[THREADS];
    private int turnsDone;
    private int failures;

    public MutableCells() {
        for (int i = 0; i < strands.length; i++) {
            strands[i] = new Strand(i);
        }
    }

    public int act(int thread, int kind, int x, int y, int z) {
        Strand strand = strandOf(thread);
        if (strand == null || !mayBe(kind, x, y, z)) {
            return OUTSIDE;
        }
        if (strand.turns > 0) {
            return STATE;
        }
        return strand.append(kind, x, y, z) ? strand.acts : ROOM;
    }

    public int turn(int thread) {
        Strand strand = strandOf(thread);
        if (strand == null) {
            return OUTSIDE;
        }
        if (strand.state() != GOES || failures >= MOST_FAILURES) {
            return STATE;
        }
        takeTurn(strand);
        return strand.state();
    }

    public int play(int s, int n) {
        if (n < 1 || n > MOST_PLAYED) {
            return OUTSIDE;
        }
        int seed = s;
        for (int done = 0; done < n; done++) {
            seed = seed * 1103515245 + 12345;
            Strand strand = failures >= MOST_FAILURES ? null : drawn(seed);
            if (strand == null) {
                return done;
            }
            takeTurn(strand);
        }
        return n;
    }

    public int told(int thread, int what) {
        Strand strand = strandOf(thread);
        if (strand == null) {
            return OUTSIDE;
        }
        switch (what) {
            case 0: return strand.state();
            case 1: return strand.place;
            case 2: return strand.failure;
            case 3: return strand.trys;
            case 4: return strand.atom.open ? 1 : 0;
            case 5: return strand.turns;
            case 6: return strand.anews;
            default: return OUTSIDE;
        }
    }

    public int register(int thread, int i) {
        Strand strand = strandOf(thread);
        return strand == null || !isRegister(i) ? OUTSIDE : strand.held(i);
    }

    public int cell(int c) {
        return isCell(c) ? cells.shown(c) : OUTSIDE;
    }

    public int lazy(int c) {
        if (!isCell(c)) {
            return OUTSIDE;
        }
        return cells.isLazy(c) ? 1 : 0;
    }

    public int size(int row) {
        return isRow(row) ? rows.length(row) : OUTSIDE;
    }

    public int item(int row, int i) {
        return isRow(row) ? rows.itemOf(row, i) : OUTSIDE;
    }

    public int frozen(int row) {
        if (!isRow(row)) {
            return OUTSIDE;
        }
        return rows.isFrozen(row) ? 1 : 0;
    }

    public int put(int c, int v) {
        if (!isCell(c)) {
            return OUTSIDE;
        }
        int before = cells.shown(c);
        cells.hold(c, v);
        return before;
    }

    public int writes() {
        return cells.log.count;
    }

    public int write(int i, int what) {
        return what < 0 || what > 2 ? OUTSIDE : cells.log.tell(i, what);
    }

    public int again() {
        return restart(true);
    }

    public int clear() {
        return restart(false);
    }

    // FAILURES are not counted anew here: the document takes none of them back.
    private int restart(boolean keepsActs) {
        int done = turnsDone;
        turnsDone = 0;
        cells.reset();
        rows.reset();
        for (int i = 0; i < strands.length; i++) {
            Strand strand = strandOf(i);
            if (strand != null) {
                strand.reset(keepsActs);
            }
        }
        return done;
    }

    private Strand strandOf(int thread) {
        return thread >= 0 && thread < strands.length ? strands[thread] : null;
    }

    private static boolean isRegister(int i) {
        return i >= 0 && i < REGISTERS;
    }

    private static boolean isCell(int c) {
        return c >= 0 && c < CELLS;
    }

    private static boolean isRow(int row) {
        return row >= 0 && row < ROWS;
    }

    private static boolean isPlace(int place) {
        return place >= 0 && place <= ACTS;
    }

    /** Whether there is such a KIND, and each of x, y, z that names something by it is in its bounds. */
    private static boolean mayBe(int kind, int x, int y, int z) {
        switch (kind) {
            case SET:
            case THROW:
                return isRegister(x);
            case GET:
                return isRegister(x) && isCell(y);
            case PUT:
                return isCell(x) && isRegister(y);
            case ADD:
            case SUB:
            case MUL:
            case DIV:
                return isRegister(x) && isRegister(y) && isRegister(z);
            case LOAD:
                return isRegister(x) && isRow(y) && isRegister(z);
            case STORE:
                return isRow(x) && isRegister(y) && isRegister(z);
            case SWAP:
                return isCell(x) && isRegister(y) && isRegister(z);
            case JUMP:
            case TRY:
                return isPlace(x);
            case JUMP0:
                return isRegister(x) && isPlace(y);
            case BEGIN:
            case END:
            case DONE:
                return true;
            case MAKE:
                return isRow(x) && isRegister(y);
            case FREEZE:
                return isRow(x);
            case LAZY:
                return isCell(x) && isCell(y);
            default:
                return false;
        }
    }

    /** The THREAD that PLAYING takes by this seed; null: none GOES. */
    private Strand drawn(int seed) {
        int going = 0;
        for (int i = 0; i < strands.length; i++) {
            if (goes(i)) {
                going++;
            }
        }
        if (going == 0) {
            return null;
        }
        int ahead = (seed >>> 16) % going;
        for (int i = 0; i < strands.length; i++) {
            if (goes(i) && ahead-- == 0) {
                return strandOf(i);
            }
        }
        return null;
    }

    private boolean goes(int thread) {
        Strand strand = strandOf(thread);
        return strand != null && strand.state() == GOES;
    }

    private void takeTurn(Strand strand) {
        turnsDone++;
        strand.turns++;
        strand.next = strand.place + 1;
        int failure = perform(strand);
        if (failure == FINE) {
            strand.place = strand.next;
        } else {
            failures++;
            strand.fail(failure);
        }
    }

    /** Does the ACT at the PLACE. This and all that it calls answer the FAILURE's number, or FINE. */
    private int perform(Strand strand) {
        int at = strand.place;
        if (at < 0 || at >= strand.acts || at >= ACTS) {
            return MISPLACED;
        }
        int kind = strand.kinds[at];
        int x = strand.xs[at];
        int y = strand.ys[at];
        int z = strand.zs[at];
        if (strand.atom.open && isBarredFromAtoms(kind)) {
            return MISPLACED;
        }
        switch (kind) {
            case GET:
                return getCell(strand, x, y);
            case PUT:
                putCell(strand, x, strand.held(y));
                return FINE;
            case LOAD:
                return loadItem(strand, x, y, strand.held(z));
            case STORE:
                return rows.store(x, strand.held(y), strand.held(z));
            case SWAP:
                return swapCell(strand, x, y, z);
            case END:
                return endAtom(strand);
            case MAKE:
                return rows.make(x, strand.held(y));
            case FREEZE:
                return rows.freeze(x);
            case LAZY:
                cells.defer(x, y);
                return FINE;
            default:
                return strand.performAlone(kind, x, y, z);
        }
    }

    private static boolean isBarredFromAtoms(int kind) {
        return kind == LOAD || kind == STORE || kind == MAKE || kind == FREEZE || kind == LAZY;
    }

    private int loadItem(Strand strand, int x, int row, int i) {
        int failure = rows.failureAt(row, i);
        if (failure == FINE) {
            strand.keep(x, rows.itemOf(row, i));
        }
        return failure;
    }

    private int getCell(Strand strand, int x, int c) {
        int failure = failureOfReading(strand, c);
        if (failure == FINE) {
            strand.keep(x, readCell(strand, c));
        }
        return failure;
    }

    private int swapCell(Strand strand, int c, int y, int z) {
        int failure = failureOfReading(strand, c);
        if (failure != FINE) {
            return failure;
        }
        boolean same = readCell(strand, c) == strand.held(y);
        if (same) {
            putCell(strand, c, strand.held(z));
        }
        strand.keep(y, same ? 1 : 0);
        return FINE;
    }

    // Looked at ahead of readCell(), so that reading itself has a number to answer and no FAILURE.
    // A LAZY CELL waits for one other only: what leads to a ring has nothing worked out on the way.
    private int failureOfReading(Strand strand, int c) {
        if (strand.atom.open) {
            return cells.isLazy(c) && !strand.atom.hasPut(c) ? MISPLACED : FINE;
        }
        return cells.leadsToRing(c) ? RING : FINE;
    }

    private int readCell(Strand strand, int c) {
        if (!strand.atom.open) {
            return cells.workedOut(c, strand.number);
        }
        if (strand.atom.hasPut(c)) {
            return strand.atom.putNumber(c);
        }
        int number = cells.shown(c);
        strand.atom.noteReading(c, number);
        return number;
    }

    private void putCell(Strand strand, int c, int number) {
        if (strand.atom.open) {
            strand.atom.notePut(c, number);
        } else {
            cells.count(strand.number, c, number);
        }
    }

    private int endAtom(Strand strand) {
        Atom atom = strand.atom;
        if (!atom.open || strand.trys > atom.trysAhead) {
            return MISPLACED;
        }
        if (isOvertaken(atom)) {
            strand.beginAnew();
            return FINE;
        }
        for (int c = 0; c < CELLS; c++) {
            if (atom.hasPut(c)) {
                cells.count(strand.number, c, atom.putNumber(c));
            }
        }
        atom.open = false;
        return FINE;
    }

    /** Whether a CELL that the ATOM read is not as it was when the ATOM read it first. */
    private boolean isOvertaken(Atom atom) {
        for (int c = 0; c < CELLS; c++) {
            if (atom.hasRead(c) && (cells.isLazy(c) || cells.shown(c) != atom.firstNumber(c))) {
                return true;
            }
        }
        return false;
    }

    /** The CELLS, with the LOG of what counted in them. */
    private static final class Cells {
        private final int[] numbers = new int[CELLS];
        /** The CELL that a LAZY one is LAZY with; NONE: it holds a number. */
        private final int[] partners = new int[CELLS];
        private final int[] trail = new int[CELLS];
        private final Log log = new Log();

        Cells() {
            reset();
        }

        void reset() {
            Arrays.fill(numbers, 0);
            Arrays.fill(partners, NONE);
            log.count = 0;
        }

        boolean isLazy(int c) {
            return isCell(c) && partners[c] != NONE;
        }

        int shown(int c) {
            if (!isCell(c)) {
                return 0;
            }
            return partners[c] != NONE ? partners[c] : numbers[c];
        }

        void hold(int c, int number) {
            if (c >= 0 && c < numbers.length) {
                numbers[c] = number;
                partners[c] = NONE;
            }
        }

        void defer(int c, int partner) {
            if (isCell(c) && isCell(partner)) {
                partners[c] = partner;
            }
        }

        void count(int thread, int c, int number) {
            hold(c, number);
            log.add(thread, c, number);
        }

        /** Whether reading would come to a CELL that is being read already. */
        boolean leadsToRing(int c) {
            int at = c;
            // Without a ring each step comes to a CELL not seen yet, so no more than CELLS steps are LAZY.
            for (int steps = 0; steps < CELLS; steps++) {
                if (!isLazy(at)) {
                    return false;
                }
                at = shown(at);
            }
            return true;
        }

        /** The number of a CELL that leads to no ring; the LAZY ones on the way are worked out, the last first. */
        int workedOut(int c, int thread) {
            int length = 0;
            int at = c;
            while (length < trail.length && isLazy(at)) {
                trail[length] = at;
                length++;
                at = shown(at);
            }
            int number = shown(at);
            for (int i = length - 1; i >= 0; i--) {
                number = 2 * number + 1;
                count(thread, trail[i], number);
            }
            return number;
        }
    }

    /** The latest writes; a new one takes the oldest one's slot. */
    private static final class Log {
        private final int[] threads = new int[WRITES_KEPT];
        private final int[] places = new int[WRITES_KEPT];
        private final int[] numbers = new int[WRITES_KEPT];
        private int latest;
        private int count;

        void add(int thread, int c, int number) {
            latest = latest >= 0 && latest < WRITES_KEPT - 1 ? latest + 1 : 0;
            threads[latest] = thread;
            places[latest] = c;
            numbers[latest] = number;
            count++;
        }

        int tell(int i, int what) {
            if (i < 0 || i >= count || i >= WRITES_KEPT) {
                return NONE;
            }
            int slot = i <= latest ? latest - i : latest - i + WRITES_KEPT;
            if (slot < 0 || slot >= WRITES_KEPT) {
                return NONE;
            }
            if (what == 0) {
                return threads[slot];
            }
            return what == 1 ? places[slot] : numbers[slot];
        }
    }

    private static final class Rows {
        private final int[] lengths = new int[ROWS];
        private final boolean[] ices = new boolean[ROWS];
        private final int[] items = new int[ROWS * ITEMS];

        Rows() {
            reset();
        }

        void reset() {
            for (int row = 0; row < ROWS; row++) {
                lengths[row] = NONE;
                ices[row] = false;
            }
        }

        int length(int row) {
            return isRow(row) ? lengths[row] : NONE;
        }

        boolean isFrozen(int row) {
            return isRow(row) && ices[row];
        }

        boolean hasItem(int row, int i) {
            return isRow(row) && i >= 0 && i < lengths[row] && i < ITEMS;
        }

        int itemOf(int row, int i) {
            return hasItem(row, i) ? items[row * ITEMS + i] : 0;
        }

        int failureAt(int row, int i) {
            if (length(row) == NONE) {
                return ROW_IS_NOTHING;
            }
            return hasItem(row, i) ? FINE : NO_SUCH_ITEM;
        }

        int store(int row, int i, int number) {
            int failure = failureAt(row, i);
            if (failure != FINE) {
                return failure;
            }
            if (isFrozen(row)) {
                return ROW_IS_FROZEN;
            }
            if (hasItem(row, i)) {
                items[row * ITEMS + i] = number;
            }
            return FINE;
        }

        int make(int row, int length) {
            if (length < 0) {
                return BELOW_ZERO;
            }
            if (length > ITEMS) {
                return TOO_MANY;
            }
            if (isRow(row)) {
                Arrays.fill(items, row * ITEMS, row * ITEMS + ITEMS, 0);
                lengths[row] = length;
                ices[row] = false;
            }
            return FINE;
        }

        int freeze(int row) {
            if (!isRow(row) || lengths[row] == NONE) {
                return ROW_IS_NOTHING;
            }
            ices[row] = true;
            return FINE;
        }
    }

    /** What a THREAD did since its BEGIN, as long as it does not count. */
    private static final class Atom {
        private boolean open;
        private int behindBegin;
        private int trysAhead;
        private final int[] registers = new int[REGISTERS];
        private final boolean[] putMarks = new boolean[CELLS];
        private final int[] putNumbers = new int[CELLS];
        private final boolean[] readMarks = new boolean[CELLS];
        private final int[] firstNumbers = new int[CELLS];

        void forget() {
            for (int c = 0; c < CELLS; c++) {
                putMarks[c] = false;
                readMarks[c] = false;
            }
        }

        boolean hasPut(int c) {
            return isCell(c) && putMarks[c];
        }

        int putNumber(int c) {
            return isCell(c) ? putNumbers[c] : 0;
        }

        void notePut(int c, int number) {
            if (isCell(c)) {
                putMarks[c] = true;
                putNumbers[c] = number;
            }
        }

        boolean hasRead(int c) {
            return isCell(c) && readMarks[c];
        }

        int firstNumber(int c) {
            return isCell(c) ? firstNumbers[c] : 0;
        }

        void noteReading(int c, int number) {
            if (isCell(c) && !readMarks[c]) {
                readMarks[c] = true;
                firstNumbers[c] = number;
            }
        }
    }

    /** A THREAD, by a name that is not the library's. */
    private static final class Strand {
        private final int number;
        private final int[] kinds = new int[ACTS];
        private final int[] xs = new int[ACTS];
        private final int[] ys = new int[ACTS];
        private final int[] zs = new int[ACTS];
        private int acts;
        private final int[] registers = new int[REGISTERS];
        private final int[] tryPlaces = new int[TRYS];
        private int trys;
        private final Atom atom = new Atom();
        private int place;
        /** The PLACE behind the ACT that is being done, if it does not fail. */
        private int next;
        /** The FAILURE that it FAILED by; FINE: it has not. */
        private int failure;
        private int turns;
        private int anews;

        Strand(int number) {
            this.number = number;
        }

        void reset(boolean keepsActs) {
            if (!keepsActs) {
                acts = 0;
            }
            Arrays.fill(registers, 0);
            trys = 0;
            atom.open = false;
            place = 0;
            failure = FINE;
            turns = 0;
            anews = 0;
        }

        boolean append(int kind, int x, int y, int z) {
            if (acts < 0 || acts >= ACTS) {
                return false;
            }
            kinds[acts] = kind;
            xs[acts] = x;
            ys[acts] = y;
            zs[acts] = z;
            acts++;
            return true;
        }

        int state() {
            if (failure != FINE) {
                return FAILED;
            }
            return place >= acts && trys == 0 && !atom.open ? ENDED : GOES;
        }

        int held(int i) {
            return isRegister(i) ? registers[i] : 0;
        }

        void keep(int i, int value) {
            if (isRegister(i)) {
                registers[i] = value;
            }
        }

        /** Does an ACT that looks at nothing but the THREAD. */
        int performAlone(int kind, int x, int y, int z) {
            switch (kind) {
                case SET:
                    keep(x, y);
                    return FINE;
                case ADD:
                    keep(x, held(y) + held(z));
                    return FINE;
                case SUB:
                    keep(x, held(y) - held(z));
                    return FINE;
                case MUL:
                    keep(x, held(y) * held(z));
                    return FINE;
                case DIV:
                    return divide(x, held(y), held(z));
                case JUMP:
                    next = x;
                    return FINE;
                case JUMP0:
                    next = held(x) == 0 ? y : next;
                    return FINE;
                case BEGIN:
                    return beginAtom();
                case TRY:
                    return openTry(x);
                case DONE:
                    return closeTry();
                case THROW:
                    return THROWN + (held(x) & 7);
                default:
                    return FINE;
            }
        }

        private int divide(int x, int dividend, int divisor) {
            if (divisor == 0) {
                return BY_ZERO;
            }
            keep(x, dividend / divisor);
            return FINE;
        }

        private int openTry(int tryPlace) {
            if (trys < 0 || trys >= TRYS) {
                return MISPLACED;
            }
            tryPlaces[trys] = tryPlace;
            trys++;
            return FINE;
        }

        private int closeTry() {
            if (trys == 0 || atom.open && trys <= atom.trysAhead) {
                return MISPLACED;
            }
            trys--;
            return FINE;
        }

        private int beginAtom() {
            if (atom.open) {
                return MISPLACED;
            }
            atom.open = true;
            atom.behindBegin = next;
            atom.trysAhead = trys;
            System.arraycopy(registers, 0, atom.registers, 0, REGISTERS);
            atom.forget();
            return FINE;
        }

        // TRYS need no mending: END fails while one of the ATOM's own is open, and one ahead of the ATOM
        // can't end without the ATOM.
        void beginAnew() {
            anews++;
            next = atom.behindBegin;
            System.arraycopy(atom.registers, 0, registers, 0, REGISTERS);
            atom.forget();
        }

        void fail(int number) {
            if (trys <= 0 || trys > TRYS) {
                failure = number;
                atom.open = false;
                return;
            }
            trys--;
            if (trys < atom.trysAhead) {
                atom.open = false;
            }
            keep(0, number);
            place = tryPlaces[trys];
        }
    }
}
