/** One group of checks for each promise of the document, by its number. */
public final class PromiseTest extends Words {
    public static void main(String[] args) {
        promise1();
        promise2Answers();
        promise2Bounds();
        promise3Turn();
        promise3Numbers();
        promise3Places();
        promise3Rows();
        promise3Swap();
        promise3Trys();
        promise3Lazy();
        promise3Atoms();
        promise3AtomsAnew();
        promise3AtomsAndFailures();
        promise3BarredFromAtoms();
        promise3BehindTheLastAct();
        promise4();
        promise4Failures();
        promise5();
        promise6();
        promise7And8();
        promise9To11();
        promise12();
        promise13And14();
        promise15();
        promise16();
        constants();
        check.finish();
    }

    private static void isAsAtFirst(MutableCells m) {
        for (int c = 0; c < 8; c++) {
            due("cell", m.cell(c), 0);
            due("lazy", m.lazy(c), 0);
        }
        for (int r = 0; r < 4; r++) {
            due("size", m.size(r), NONE);
            due("item", m.item(r, 0), 0);
            due("frozen", m.frozen(r), 0);
        }
        for (int t = 0; t < 3; t++) {
            for (int what = 1; what < 7; what++) {
                due("told " + what, m.told(t, what), 0);
            }
            for (int i = 0; i < 4; i++) {
                due("register", m.register(t, i), 0);
            }
        }
        due("writes", m.writes(), 0);
        due("write", m.write(0, 0), NONE);
    }

    private static void promise1() {
        part = "promise 1";
        MutableCells m = new MutableCells();
        isAsAtFirst(m);
        for (int t = 0; t < 3; t++) {
            due("a THREAD without ACTS", m.told(t, IS), ENDED);
            due("turn", m.turn(t), STATE);
        }
        due("again", m.again(), 0);
        MutableCells other = new MutableCells();
        m.put(3, 9);
        due("another object's CELL", other.cell(3), 0);
    }

    private static void promise2Answers() {
        part = "promise 2, answers";
        MutableCells m = new MutableCells();
        for (int i = 1; i <= 24; i++) {
            due("act " + i, m.act(1, SET, 0, i, 0), i);
        }
        due("the 25th", m.act(1, SET, 0, 0, 0), ROOM);
        due("OUTSIDE ahead of ROOM", m.act(1, SET, 4, 0, 0), OUTSIDE);
        due("another THREAD", m.act(2, SET, 0, 0, 0), 1);
        due("turn", m.turn(1), GOES);
        due("STATE ahead of ROOM", m.act(1, SET, 0, 0, 0), STATE);
        due("OUTSIDE ahead of STATE", m.act(1, SET, 0, 0, 0) == STATE ? m.act(1, 20, 0, 0, 0) : 0, OUTSIDE);
        due("a THREAD that did no TURN", m.act(0, SET, 0, 0, 0), 1);
        m.again();
        due("behind again", m.act(1, SET, 0, 0, 0), ROOM);
        due("behind again, another", m.act(2, SET, 0, 0, 0), 2);
        m.turn(1);
        m.clear();
        due("behind clear", m.act(1, SET, 0, 0, 0), 1);
        MutableCells refused = new MutableCells();
        refused.act(0, SET, 4, 0, 0);
        due("a refused ACT is not there", refused.told(0, IS), ENDED);
    }

    /** The highest of x, y, z by each KIND; -1: it may be any number. */
    private static final int[][] TOPS = {
        {3, -1, -1}, {3, 7, -1}, {7, 3, -1}, {3, 3, 3}, {3, 3, 3}, {3, 3, 3}, {3, 3, 3}, {3, 3, 3}, {3, 3, 3},
        {7, 3, 3}, {24, -1, -1}, {3, 24, -1}, {-1, -1, -1}, {-1, -1, -1}, {24, -1, -1}, {-1, -1, -1}, {3, -1, -1},
        {3, 3, -1}, {3, -1, -1}, {7, 7, -1},
    };

    private static void promise2Bounds() {
        part = "promise 2, bounds";
        for (int kind = 0; kind < TOPS.length; kind++) {
            for (int which = 0; which < 3; which++) {
                int top = TOPS[kind][which];
                boolean free = top < 0;
                tryNumber(kind, which, free ? 999 : top, 1);
                tryNumber(kind, which, free ? 999 : top + 1, free ? 1 : OUTSIDE);
                tryNumber(kind, which, -1, free ? 1 : OUTSIDE);
                tryNumber(kind, which, MIN, free ? 1 : OUTSIDE);
                tryNumber(kind, which, MAX, free ? 1 : OUTSIDE);
                tryNumber(kind, which, 0, 1);
            }
        }
        MutableCells m = new MutableCells();
        due("KIND -1", m.act(0, -1, 0, 0, 0), OUTSIDE);
        due("KIND 20", m.act(0, 20, 0, 0, 0), OUTSIDE);
        due("KIND MIN", m.act(0, MIN, 0, 0, 0), OUTSIDE);
        due("THREAD -1", m.act(-1, 0, 0, 0, 0), OUTSIDE);
        due("THREAD 3", m.act(3, 0, 0, 0, 0), OUTSIDE);
        due("nothing came", m.act(0, 0, 0, 0, 0), 1);
    }

    private static void tryNumber(int kind, int which, int number, int want) {
        int[] xyz = new int[3];
        xyz[which] = number;
        MutableCells m = new MutableCells();
        due("KIND " + kind + " with " + "xyz".charAt(which) + " = " + number, m.act(0, kind, xyz[0], xyz[1], xyz[2]), want);
    }

    private static void promise3Turn() {
        part = "promise 3";
        MutableCells m = with(a(SET, 0, 5), a(SET, 1, 6));
        due("THREAD -1", m.turn(-1), OUTSIDE);
        due("THREAD 3", m.turn(3), OUTSIDE);
        due("first", m.turn(0), GOES);
        due("second", m.turn(0), ENDED);
        due("third", m.turn(0), STATE);
        due("no TURN was done", m.told(0, TURNS), 2);
        due("register", m.register(0, 1), 6);
        MutableCells failing = with(a(THROW, 0), a(SET, 0, 1));
        due("fails", failing.turn(0), FAILED);
        due("goes no more", failing.turn(0), STATE);
        due("the TURN counts", failing.told(0, TURNS), 1);
        due("another THREAD without ACTS", failing.turn(1), STATE);
    }

    private static int worked(int kind, int first, int second) {
        MutableCells m = with(a(SET, 1, first), a(SET, 2, second), a(kind, 3, 1, 2));
        due("KIND " + kind, run(m), ENDED);
        return m.register(0, 3);
    }

    private static void promise3Numbers() {
        part = "promise 3, numbers";
        due("SET", with(a(SET, 2, MIN)).turn(0), ENDED);
        due("ADD", worked(ADD, 7, -9), -2);
        due("ADD wraps", worked(ADD, MAX, 1), MIN);
        due("SUB", worked(SUB, 7, -9), 16);
        due("SUB wraps", worked(SUB, MIN, 1), MAX);
        due("MUL", worked(MUL, 7, -9), -63);
        due("MUL wraps", worked(MUL, 65536, 65536), 0);
        due("DIV", worked(DIV, 17, 5), 3);
        due("DIV cuts towards 0", worked(DIV, -17, 5), -3);
        due("DIV below, by below", worked(DIV, -17, -5), 3);
        due("DIV wraps", worked(DIV, MIN, -1), MIN);
        fails(with(a(SET, 0, 4), a(DIV, 1, 0, 2)), 2, 1);
        fails(with(a(DIV, 1, 0, 2)), 2, 0);
        MutableCells same = with(a(SET, 0, 6), a(MUL, 0, 0, 0));
        run(same);
        due("a REGISTER by itself", same.register(0, 0), 36);
        MutableCells cells = with(a(SET, 1, 8), a(PUT, 7, 1), a(GET, 2, 7));
        due("PUT, GET", run(cells), ENDED);
        due("CELL", cells.cell(7), 8);
        due("REGISTER", cells.register(0, 2), 8);
    }

    private static void promise3Places() {
        part = "promise 3, places";
        MutableCells m = with(a(JUMP, 2), a(SET, 0, 1), a(JUMP0, 0, 4), a(SET, 1, 1), a(SET, 2, 1));
        due("JUMP", turns(m, 0, 1), GOES);
        due("PLACE", m.told(0, PLACE), 2);
        due("JUMP0 does", turns(m, 0, 1), GOES);
        due("PLACE", m.told(0, PLACE), 4);
        due("the end", turns(m, 0, 1), ENDED);
        due("leapt over", m.register(0, 0) + m.register(0, 1), 0);
        MutableCells no = with(a(SET, 3, -1), a(JUMP0, 3, 0), a(JUMP, 24));
        due("JUMP0 does not", turns(no, 0, 2), GOES);
        due("PLACE", no.told(0, PLACE), 2);
        due("JUMP far behind the last ACT", no.turn(0), ENDED);
        due("PLACE", no.told(0, PLACE), 24);
        MutableCells full = new MutableCells();
        for (int i = 0; i < 23; i++) {
            full.act(0, SET, 0, i, 0);
        }
        full.act(0, JUMP, 0, 0, 0);
        due("24 ACTS round", turns(full, 0, 24), GOES);
        due("PLACE", full.told(0, PLACE), 0);
    }

    private static void promise3Rows() {
        part = "promise 3, rows";
        fails(with(a(LOAD, 0, 1, 0)), 1, 0);
        fails(with(a(STORE, 1, 0, 0)), 1, 0);
        fails(with(a(FREEZE, 2)), 1, 0);
        fails(with(a(SET, 0, -1), a(LOAD, 0, 1, 0)), 1, 1);
        fails(with(a(SET, 0, -1), a(MAKE, 1, 0)), 6, 1);
        fails(with(a(SET, 0, MIN), a(MAKE, 1, 0)), 6, 1);
        fails(with(a(SET, 0, 9), a(MAKE, 1, 0)), 7, 1);
        fails(with(a(MAKE, 1, 0), a(LOAD, 0, 1, 0)), 3, 1);
        fails(with(a(SET, 0, 8), a(MAKE, 3, 0), a(LOAD, 0, 3, 0)), 3, 2);
        fails(with(a(SET, 0, 8), a(MAKE, 3, 0), a(SET, 0, -1), a(STORE, 3, 0, 0)), 3, 3);
        fails(with(a(SET, 0, 2), a(MAKE, 1, 0), a(FREEZE, 1), a(STORE, 1, 1, 0)), 4, 3);
        fails(with(a(SET, 0, 2), a(MAKE, 1, 0), a(FREEZE, 1), a(STORE, 1, 0, 0)), 3, 3);
        MutableCells m = with(a(SET, 0, 8), a(MAKE, 3, 0), a(SET, 1, 7), a(SET, 2, 77), a(STORE, 3, 1, 2),
            a(LOAD, 3, 3, 1), a(FREEZE, 3), a(LOAD, 0, 3, 1), a(FREEZE, 3), a(SET, 1, 3), a(MAKE, 3, 1));
        due("MAKE, STORE, LOAD", turns(m, 0, 6), GOES);
        due("ITEM", m.item(3, 7), 77);
        due("other ITEM", m.item(3, 6), 0);
        due("loaded", m.register(0, 3), 77);
        turns(m, 0, 3);
        due("frozen", m.frozen(3), 1);
        due("loaded from a FROZEN one", m.register(0, 0), 77);
        due("frozen twice", m.told(0, IS), GOES);
        due("anew", turns(m, 0, 2), ENDED);
        due("frozen no more", m.frozen(3), 0);
        due("size", m.size(3), 3);
        due("ITEM anew", m.item(3, 0), 0);
        MutableCells again = with(a(SET, 0, 1), a(MAKE, 0, 0), a(STORE, 0, 1, 0), a(MAKE, 0, 0));
        turns(again, 0, 3);
        due("stored", again.item(0, 0), 1);
        due("made anew", again.turn(0), ENDED);
        due("ITEM is 0", again.item(0, 0), 0);
        MutableCells failing = with(a(SET, 0, 2), a(MAKE, 0, 0), a(SET, 0, 9), a(MAKE, 0, 0));
        run(failing);
        due("a MAKE that fails changes nothing", failing.size(0), 2);
    }

    private static void promise3Swap() {
        part = "promise 3, swap";
        MutableCells m = with(a(SET, 1, 5), a(SET, 2, 9), a(SWAP, 3, 1, 2), a(SET, 1, 6), a(SWAP, 3, 1, 2), a(SET, 1, 9),
            a(SWAP, 3, 1, 1));
        m.put(3, 5);
        turns(m, 0, 3);
        due("CELL", m.cell(3), 9);
        due("r(y)", m.register(0, 1), 1);
        due("written", m.writes(), 1);
        turns(m, 0, 2);
        due("CELL as it was", m.cell(3), 9);
        due("r(y) is 0", m.register(0, 1), 0);
        due("not written", m.writes(), 1);
        turns(m, 0, 2);
        due("with itself: CELL", m.cell(3), 9);
        due("with itself: r(y)", m.register(0, 1), 1);
        due("with itself: written", m.writes(), 2);
        MutableCells lazy = with(a(LAZY, 0, 1), a(SET, 1, 41), a(SWAP, 0, 1, 2));
        lazy.put(1, 20);
        due("a LAZY one", run(lazy), ENDED);
        due("CELL", lazy.cell(0), 0);
        due("r(y)", lazy.register(0, 1), 1);
        due("worked out, then swapped", lazy.writes(), 2);
        due("worked out", lazy.write(1, 2), 41);
        MutableCells no = with(a(LAZY, 0, 1), a(SWAP, 0, 1, 2));
        run(no);
        due("worked out, not swapped", no.cell(0), 1);
        due("one write", no.writes(), 1);
        fails(with(a(LAZY, 0, 0), a(SWAP, 0, 1, 2)), 8, 1);
    }

    private static void promise3Trys() {
        part = "promise 3, trys";
        for (int bits = 0; bits < 8; bits++) {
            fails(with(a(SET, 2, bits), a(THROW, 2)), 10 + bits, 1);
        }
        fails(with(a(SET, 2, -1), a(THROW, 2)), 17, 1);
        fails(with(a(SET, 2, 8), a(THROW, 2)), 10, 1);
        fails(with(a(DONE)), 5, 0);
        fails(with(a(END)), 5, 0);
        fails(with(a(BEGIN), a(BEGIN)), 5, 1);
        fails(with(a(TRY, 5), a(DONE), a(DONE)), 5, 2);
        MutableCells m = with(a(TRY, 4), a(TRY, 6), a(SET, 1, 3), a(THROW, 1), a(SET, 2, 50), a(JUMP, 8), a(SET, 3, 60), a(DONE));
        due("to the latest", turns(m, 0, 4), GOES);
        due("PLACE", m.told(0, PLACE), 6);
        due("r(0)", m.register(0, 0), 13);
        due("TRYS", m.told(0, TRYS), 1);
        due("no FAILURE that it FAILED by", m.told(0, FAILURE), 0);
        due("DONE", turns(m, 0, 2), ENDED);
        due("TRYS", m.told(0, TRYS), 0);
        due("r(3)", m.register(0, 3), 60);
        MutableCells on = with(a(TRY, 3), a(TRY, 3), a(TRY, 3), a(DIV, 1, 1, 1));
        turns(on, 0, 6);
        due("passed on twice, caught by the first", on.told(0, TRYS), 0);
        due("GOES", on.told(0, IS), GOES);
        due("and FAILED", on.turn(0), FAILED);
        due("the FAILURE", on.told(0, FAILURE), 2);
        due("PLACE", on.told(0, PLACE), 3);
        MutableCells four = with(a(TRY, 0), a(TRY, 0), a(TRY, 0), a(TRY, 0), a(TRY, 7), a(SET, 1, 1));
        due("four", turns(four, 0, 4), GOES);
        due("TRYS", four.told(0, TRYS), 4);
        due("the fifth is caught by the fourth", four.turn(0), GOES);
        due("TRYS", four.told(0, TRYS), 3);
        due("r(0)", four.register(0, 0), 5);
        due("PLACE", four.told(0, PLACE), 0);
    }

    private static void promise3Lazy() {
        part = "promise 3, lazy";
        MutableCells m = with(a(LAZY, 0, 1), a(LAZY, 1, 2), a(LAZY, 2, 3), a(GET, 0, 1), a(GET, 0, 0), a(GET, 0, 0));
        m.put(3, 10);
        turns(m, 0, 4);
        due("r(0)", m.register(0, 0), 43);
        due("CELL 1", m.cell(1), 43);
        due("CELL 2", m.cell(2), 21);
        due("CELL 0 is LAZY still", m.lazy(0), 1);
        due("writes", m.writes(), 2);
        due("the latest write", m.write(0, 1), 1);
        due("the first write", m.write(1, 1), 2);
        due("its number", m.write(1, 2), 21);
        due("read on", turns(m, 0, 2), ENDED);
        due("r(0)", m.register(0, 0), 87);
        due("a CELL is worked out once", m.writes(), 3);
        MutableCells all = new MutableCells();
        for (int c = 0; c < 7; c++) {
            all.act(0, LAZY, c, c + 1, 0);
        }
        acts(all, 0, a(GET, 1, 0));
        due("seven LAZY ones", run(all), ENDED);
        due("r(1)", all.register(0, 1), 127);
        due("writes", all.writes(), 7);
        MutableCells wraps = with(a(LAZY, 0, 1), a(GET, 1, 0));
        wraps.put(1, MAX);
        run(wraps);
        due("wraps", wraps.cell(0), -1);
        fails(with(a(LAZY, 4, 4), a(GET, 0, 4)), 8, 1);
        MutableCells ring = new MutableCells();
        for (int c = 0; c < 8; c++) {
            ring.act(0, LAZY, c, c == 7 ? 5 : c + 1, 0);
        }
        acts(ring, 0, a(TRY, 10), a(GET, 2, 0), a(GET, 2, 7));
        turns(ring, 0, 10);
        due("a way to a ring", ring.register(0, 0), 8);
        due("REGISTER as it was", ring.register(0, 2), 0);
        for (int c = 0; c < 8; c++) {
            due("LAZY still", ring.lazy(c), 1);
        }
        due("nothing written", ring.writes(), 0);
        due("in the ring", ring.turn(0), FAILED);
        MutableCells over = with(a(LAZY, 0, 1), a(LAZY, 0, 2), a(SET, 1, 4), a(PUT, 0, 1));
        turns(over, 0, 2);
        due("LAZY with another", over.cell(0), 2);
        due("LAZY is no write", over.writes(), 0);
        due("PUT over it", turns(over, 0, 2), ENDED);
        due("not LAZY", over.lazy(0), 0);
        due("CELL", over.cell(0), 4);
    }

    private static void promise3Atoms() {
        part = "promise 3, atoms";
        MutableCells m = with(a(BEGIN), a(SET, 1, 5), a(PUT, 6, 1), a(SET, 1, 7), a(PUT, 2, 1), a(SET, 1, 9), a(PUT, 6, 1),
            a(GET, 2, 6), a(END));
        acts(m, 1, a(GET, 0, 6));
        turns(m, 0, 8);
        due("open", m.told(0, ATOM), 1);
        due("nothing counts yet", m.cell(6), 0);
        due("its own PUT is read", m.register(0, 2), 9);
        m.turn(1);
        due("another THREAD reads what counts", m.register(1, 0), 0);
        due("no writes yet", m.writes(), 0);
        due("END", m.turn(0), ENDED);
        due("over", m.told(0, ATOM), 0);
        due("CELL 6", m.cell(6), 9);
        due("CELL 2", m.cell(2), 7);
        due("a write for each CELL", m.writes(), 2);
        due("by CELLS", m.write(1, 1), 2);
        due("by CELLS", m.write(0, 1), 6);
        due("the last number", m.write(0, 2), 9);
        due("begun once", m.told(0, ANEWS), 0);
        MutableCells swap = with(a(BEGIN), a(SET, 2, 3), a(SWAP, 0, 1, 2), a(SWAP, 0, 1, 2), a(END));
        turns(swap, 0, 3);
        due("SWAP in an ATOM", swap.register(0, 1), 1);
        due("does not count yet", swap.cell(0), 0);
        turns(swap, 0, 1);
        due("SWAP of what was PUT", swap.register(0, 1), 0);
        due("END", swap.turn(0), ENDED);
        due("counts", swap.cell(0), 3);
        due("one write", swap.writes(), 1);
        MutableCells between = with(a(BEGIN), a(GET, 1, 0), a(GET, 2, 0), a(GET, 3, 1), a(END), a(SET, 0, 1));
        turns(between, 0, 2);
        between.put(0, 4);
        between.put(1, 6);
        turns(between, 0, 2);
        due("first reading", between.register(0, 1), 0);
        due("what others do comes between", between.register(0, 2), 4);
        due("a CELL read late", between.register(0, 3), 6);
        between.turn(0);
        due("the first number tells", between.told(0, ANEWS), 1);
    }

    private static void promise3AtomsAnew() {
        part = "promise 3, anew";
        MutableCells m = with(a(SET, 0, 3), a(TRY, 9), a(BEGIN), a(GET, 1, 5), a(PUT, 6, 0), a(SET, 0, 8), a(TRY, 9), a(DONE),
            a(END), a(SET, 3, 1));
        turns(m, 0, 8);
        m.put(5, 1);
        due("END", m.turn(0), GOES);
        due("PLACE behind BEGIN", m.told(0, PLACE), 3);
        due("ATOM is open", m.told(0, ATOM), 1);
        due("r(0) as behind BEGIN", m.register(0, 0), 3);
        due("r(1) as behind BEGIN", m.register(0, 1), 0);
        due("TRYS as behind BEGIN", m.told(0, TRYS), 1);
        due("nothing counts", m.cell(6), 0);
        due("ANEW", m.told(0, ANEWS), 1);
        due("no writes", m.writes(), 0);
        due("once more", turns(m, 0, 6), GOES);
        due("PLACE behind END", m.told(0, PLACE), 9);
        due("counts", m.cell(6), 3);
        due("r(1)", m.register(0, 1), 1);

        MutableCells back = with(a(BEGIN), a(GET, 1, 5), a(END));
        turns(back, 0, 2);
        back.put(5, 1);
        back.put(5, 0);
        due("the same number again", back.turn(0), ENDED);

        MutableCells lazy = with(a(BEGIN), a(GET, 1, 5), a(END));
        acts(lazy, 1, a(LAZY, 5, 0));
        turns(lazy, 0, 2);
        lazy.turn(1);
        due("LAZY with CELL 0, a number as first read", lazy.cell(5), 0);
        lazy.turn(0);
        due("a CELL that is LAZY now", lazy.told(0, ANEWS), 1);

        MutableCells putAfter = with(a(BEGIN), a(GET, 1, 5), a(PUT, 5, 1), a(END));
        turns(putAfter, 0, 3);
        putAfter.put(5, 2);
        putAfter.turn(0);
        due("read, then PUT", putAfter.told(0, ANEWS), 1);

        MutableCells putAhead = with(a(BEGIN), a(PUT, 5, 1), a(GET, 1, 5), a(END));
        turns(putAhead, 0, 3);
        putAhead.put(5, 2);
        due("PUT, then read", putAhead.turn(0), ENDED);
        due("CELL", putAhead.cell(5), 0);

        MutableCells bySwap = with(a(BEGIN), a(SWAP, 5, 1, 2), a(END));
        turns(bySwap, 0, 2);
        bySwap.put(5, 2);
        bySwap.turn(0);
        due("SWAP reads", bySwap.told(0, ANEWS), 1);

        MutableCells forgets = with(a(BEGIN), a(JUMP0, 0, 3), a(JUMP, 5), a(GET, 1, 5), a(PUT, 6, 0), a(END));
        acts(forgets, 1, a(SET, 1, 1));
        turns(forgets, 0, 4);
        forgets.put(5, 2);
        forgets.turn(0);
        forgets.put(5, 0);
        turns(forgets, 0, 3);
        forgets.put(5, 9);
        forgets.turn(0);
        due("what was read ahead of ANEW is forgotten, what is read behind it tells", forgets.told(0, ANEWS), 2);
        turns(forgets, 0, 3);
        due("END", forgets.turn(0), ENDED);

        MutableCells shorter = with(a(BEGIN), a(GET, 1, 5), a(JUMP0, 1, 5), a(GET, 2, 0), a(PUT, 0, 1), a(END));
        shorter.put(5, 1);
        turns(shorter, 0, 5);
        shorter.put(5, 0);
        due("ANEW", turns(shorter, 0, 1), GOES);
        shorter.put(0, 9);
        due("neither what it read nor what it PUT ahead of ANEW tells", turns(shorter, 0, 3), ENDED);
        due("CELL", shorter.cell(0), 9);
        due("ANEW", shorter.told(0, ANEWS), 1);

        MutableCells next = with(a(TRY, 5), a(BEGIN), a(GET, 2, 0), a(PUT, 0, 1), a(THROW, 1), a(BEGIN), a(END));
        turns(next, 0, 5);
        next.put(0, 9);
        due("the next ATOM knows nothing of one that failed", turns(next, 0, 2), ENDED);
        due("CELL", next.cell(0), 9);
        due("ANEW", next.told(0, ANEWS), 0);

        MutableCells other = with(a(BEGIN), a(GET, 1, 5), a(PUT, 2, 1), a(END));
        turns(other, 0, 3);
        other.put(4, 9);
        other.put(2, 9);
        due("CELLS that were not read", other.turn(0), ENDED);
        due("CELL 2", other.cell(2), 0);

        MutableCells mended = with(a(BEGIN), a(TRY, 4), a(GET, 1, 5), a(DONE), a(END));
        acts(mended, 1, a(LAZY, 5, 6));
        mended.turn(1);
        turns(mended, 0, 3);
        due("a LAZY one that could not be read", mended.register(0, 0), 5);
        due("was not read", mended.turn(0), ENDED);
        due("LAZY still", mended.lazy(5), 1);
    }

    private static void promise3AtomsAndFailures() {
        part = "promise 3, atoms and failures";
        MutableCells m = with(a(TRY, 6), a(BEGIN), a(SET, 1, 4), a(PUT, 0, 1), a(TRY, 7), a(DIV, 1, 1, 3), a(SET, 2, 1),
            a(DIV, 1, 1, 3));
        turns(m, 0, 6);
        due("caught in the ATOM", m.told(0, ATOM), 1);
        due("TRYS", m.told(0, TRYS), 1);
        due("r(0)", m.register(0, 0), 2);
        due("passes the ATOM", m.turn(0), GOES);
        due("the ATOM is over", m.told(0, ATOM), 0);
        due("TRYS", m.told(0, TRYS), 0);
        due("PLACE", m.told(0, PLACE), 6);
        due("REGISTERS stay", m.register(0, 1), 4);
        due("the CELL does not count", m.cell(0), 0);
        turns(m, 0, 1);
        due("without a TRY", m.turn(0), FAILED);

        MutableCells failed = with(a(BEGIN), a(SET, 1, 4), a(PUT, 0, 1), a(THROW, 1));
        due("FAILED", run(failed), FAILED);
        due("the ATOM", failed.told(0, ATOM), 0);
        due("nothing counts", failed.cell(0), 0);
        due("PLACE", failed.told(0, PLACE), 3);
        due("FAILURE", failed.told(0, FAILURE), 14);
        due("r(0) as it was", failed.register(0, 0), 0);

        MutableCells end = with(a(BEGIN), a(TRY, 4), a(END), a(SET, 1, 1), a(END));
        turns(end, 0, 3);
        due("END with a TRY of the ATOM open", end.register(0, 0), 5);
        due("ATOM open", end.told(0, ATOM), 1);
        due("PLACE", end.told(0, PLACE), 4);
        due("END", end.turn(0), ENDED);

        MutableCells done = with(a(TRY, 3), a(BEGIN), a(DONE), a(SET, 1, 1));
        turns(done, 0, 3);
        due("DONE of a TRY ahead of the ATOM", done.register(0, 0), 5);
        due("the ATOM is over", done.told(0, ATOM), 0);
        due("TRYS", done.told(0, TRYS), 0);
        due("PLACE", done.told(0, PLACE), 3);

        MutableCells kept = with(a(TRY, 9), a(BEGIN), a(END), a(DONE));
        turns(kept, 0, 3);
        due("END keeps TRYS ahead of it", kept.told(0, TRYS), 1);
        due("DONE behind it", kept.turn(0), ENDED);

        MutableCells putStays = with(a(BEGIN), a(SET, 1, 4), a(TRY, 5), a(PUT, 0, 1), a(THROW, 1), a(END));
        due("caught in the ATOM", run(putStays), ENDED);
        due("what was PUT counts", putStays.cell(0), 4);

        MutableCells begin = with(a(BEGIN), a(TRY, 3), a(BEGIN), a(END));
        turns(begin, 0, 3);
        due("BEGIN in an ATOM", begin.register(0, 0), 5);
        due("ATOM", begin.told(0, ATOM), 1);
        due("END", begin.turn(0), ENDED);
    }

    private static void promise3BarredFromAtoms() {
        part = "promise 3, barred from atoms";
        int[][] barred = {a(LOAD, 0, 0, 0), a(STORE, 0, 0, 0), a(MAKE, 0, 0), a(FREEZE, 0), a(LAZY, 0, 1)};
        for (int[] act : barred) {
            MutableCells m = with(a(SET, 0, 9), a(BEGIN));
            acts(m, 0, act);
            fails(m, 5, 2);
        }
        MutableCells m = with(a(BEGIN), a(MAKE, 0, 0));
        run(m);
        due("no ROW", m.size(0), NONE);
        MutableCells lazy = with(a(LAZY, 1, 0), a(BEGIN), a(GET, 2, 1));
        fails(lazy, 5, 2);
        due("LAZY still", lazy.lazy(1), 1);
        fails(with(a(LAZY, 1, 0), a(BEGIN), a(SWAP, 1, 0, 0)), 5, 2);
        MutableCells put = with(a(LAZY, 1, 0), a(SET, 1, 7), a(BEGIN), a(PUT, 1, 1), a(GET, 2, 1), a(END));
        due("PUT over a LAZY one", run(put), ENDED);
        due("read", put.register(0, 2), 7);
        due("CELL", put.cell(1), 7);
        due("lazy", put.lazy(1), 0);
    }

    private static void promise3BehindTheLastAct() {
        part = "promise 3, behind the last act";
        MutableCells m = with(a(TRY, 24));
        due("with a TRY it GOES", m.turn(0), GOES);
        due("PLACE", m.told(0, PLACE), 1);
        due("FAILURE 5 is caught", m.turn(0), ENDED);
        due("r(0)", m.register(0, 0), 5);
        due("PLACE", m.told(0, PLACE), 24);
        due("TURNS", m.told(0, TURNS), 2);
        MutableCells atom = with(a(BEGIN));
        due("with an ATOM it GOES", atom.turn(0), GOES);
        due("and FAILS", atom.turn(0), FAILED);
        due("FAILURE", atom.told(0, FAILURE), 5);
        due("PLACE", atom.told(0, PLACE), 1);
        due("ATOM", atom.told(0, ATOM), 0);
        MutableCells far = with(a(BEGIN), a(JUMP, 20));
        due("far behind", turns(far, 0, 3), FAILED);
        due("PLACE", far.told(0, PLACE), 20);
        MutableCells inner = with(a(TRY, 24), a(BEGIN), a(TRY, 3));
        due("two TRYS and an ATOM", turns(inner, 0, 4), GOES);
        due("ATOM", inner.told(0, ATOM), 1);
        due("then the outer", inner.turn(0), ENDED);
        due("ATOM", inner.told(0, ATOM), 0);
    }

    private static void promise4() {
        part = "promise 4";
        MutableCells m = new MutableCells();
        due("n 0", m.play(1, 0), OUTSIDE);
        due("n -1", m.play(1, -1), OUTSIDE);
        due("n 101", m.play(1, 101), OUTSIDE);
        due("none GOES", m.play(1, 100), 0);
        for (int t = 0; t < 3; t++) {
            acts(m, t, a(SET, 0, 1), a(JUMP, 0));
        }
        due("n OUTSIDE changes nothing", m.play(5, 101), OUTSIDE);
        due("no TURN", m.again(), 0);
        int[] counted = new int[3];
        int s = 123456789;
        due("one hundred", m.play(s, 100), 100);
        for (int i = 0; i < 100; i++) {
            s = s * 1103515245 + 12345;
            counted[(s >>> 16) % 3]++;
        }
        for (int t = 0; t < 3; t++) {
            due("TURNS of " + t, m.told(t, TURNS), counted[t]);
        }
        MutableCells two = new MutableCells();
        acts(two, 0, a(SET, 0, 1), a(JUMP, 0));
        acts(two, 2, a(SET, 0, 1), a(JUMP, 0));
        int[] of = new int[2];
        s = -77;
        due("forty", two.play(s, 40), 40);
        for (int i = 0; i < 40; i++) {
            s = s * 1103515245 + 12345;
            of[(s >>> 16) % 2]++;
        }
        due("TURNS of 0", two.told(0, TURNS), of[0]);
        due("TURNS of 1", two.told(1, TURNS), 0);
        due("TURNS of 2", two.told(2, TURNS), of[1]);
        MutableCells ends = new MutableCells();
        acts(ends, 0, a(SET, 0, 1), a(SET, 0, 1));
        acts(ends, 1, a(THROW, 0));
        acts(ends, 2, a(SET, 0, 1));
        due("one at a time", ends.play(3, 1), 1);
        due("until none GOES", ends.play(3, 50), 3);
        due("FAILED", ends.told(1, IS), FAILED);
        due("ENDED", ends.told(0, IS), ENDED);
        due("nothing more", ends.play(3, 50), 0);
    }

    private static void promise4Failures() {
        part = "promise 4, failures";
        MutableCells m = with(a(TRY, 0), a(THROW, 1));
        int failures = 0;
        for (int i = 0; i < 99; i++) {
            due("played", m.play(i, 100), 100);
            failures += 50;
            if (i % 10 == 5) {
                m.again();
            }
        }
        m.clear();
        acts(m, 0, a(TRY, 0), a(THROW, 1));
        due("the last but one", turns(m, 0, 98), GOES);
        due("49 more", failures + 49, 4999);
        due("a TRY", m.turn(0), GOES);
        due("the 5000th", m.turn(0), GOES);
        due("it is caught", m.told(0, PLACE), 0);
        due("r(0)", m.register(0, 0), 10);
        due("it GOES", m.told(0, IS), GOES);
        due("but no TURN is done", m.turn(0), STATE);
        due("nor PLAYED", m.play(1, 10), 0);
        due("OUTSIDE is ahead", m.play(1, 0), OUTSIDE);
        due("OUTSIDE is ahead", m.turn(3), OUTSIDE);
        due("TURNS", m.told(0, TURNS), 100);
        due("again takes none back", m.again(), 100);
        due("turn", m.turn(0), STATE);
        due("clear takes none back", m.clear(), 0);
        acts(m, 2, a(SET, 0, 1));
        due("turn", m.turn(2), STATE);
        due("play", m.play(1, 1), 0);
        due("put goes on", m.put(1, 4), 0);
        due("another object has its own", with(a(SET, 0, 1)).turn(0), ENDED);

        MutableCells amid = with(a(TRY, 0), a(THROW, 1));
        for (int i = 0; i < 99; i++) {
            amid.play(i, 100);
        }
        due("50 short", amid.play(1, 99), 99);
        due("in the midst of PLAYING", amid.play(1, 100), 1);
    }

    private static void promise5() {
        part = "promise 5";
        MutableCells m = with(a(TRY, 3), a(BEGIN), a(GET, 1, 1), a(SET, 2, 2));
        due("THREAD -1", m.told(-1, 0), OUTSIDE);
        due("THREAD 3", m.told(3, 0), OUTSIDE);
        due("what -1", m.told(0, -1), OUTSIDE);
        due("what 7", m.told(0, 7), OUTSIDE);
        due("GOES ahead of its first TURN", m.told(0, IS), GOES);
        turns(m, 0, 2);
        due("PLACE", m.told(0, PLACE), 2);
        due("TRYS", m.told(0, TRYS), 1);
        due("ATOM", m.told(0, ATOM), 1);
        due("TURNS", m.told(0, TURNS), 2);
        due("another's TURNS", m.told(1, TURNS), 0);
        MutableCells anew = with(a(BEGIN), a(GET, 1, 1), a(END));
        for (int i = 1; i <= 5; i++) {
            turns(anew, 0, i == 1 ? 2 : 1);
            anew.put(1, i);
            anew.turn(0);
            due("ANEW", anew.told(0, ANEWS), i);
        }
        due("no other's", anew.told(1, ANEWS), 0);
    }

    private static void promise6() {
        part = "promise 6";
        MutableCells m = with(a(SET, 0, OUTSIDE), a(SET, 3, MAX));
        run(m);
        due("a REGISTER that holds -2", m.register(0, 0), -2);
        due("REGISTER 3", m.register(0, 3), MAX);
        due("another THREAD's", m.register(1, 3), 0);
        due("REGISTER 4", m.register(0, 4), OUTSIDE);
        due("REGISTER -1", m.register(0, -1), OUTSIDE);
        due("THREAD 3", m.register(3, 0), OUTSIDE);
        due("THREAD -1", m.register(-1, 0), OUTSIDE);
    }

    private static void promise7And8() {
        part = "promises 7 and 8";
        MutableCells m = with(a(LAZY, 0, 6), a(LAZY, 6, 6));
        m.put(0, 5);
        m.put(7, MIN);
        due("a number", m.cell(0), 5);
        due("not LAZY", m.lazy(0), 0);
        due("CELL 7", m.cell(7), MIN);
        turns(m, 0, 1);
        due("LAZY", m.lazy(0), 1);
        due("with", m.cell(0), 6);
        due("cell() works nothing out", m.lazy(0), 1);
        turns(m, 0, 1);
        due("with itself", m.cell(6), 6);
        due("LAZY", m.lazy(6), 1);
        for (int c : new int[] {-1, 8, MIN, MAX}) {
            due("cell", m.cell(c), OUTSIDE);
            due("lazy", m.lazy(c), OUTSIDE);
        }
    }

    private static void promise9To11() {
        part = "promises 9 to 11";
        MutableCells m = with(a(SET, 0, 8), a(SET, 1, 7), a(SET, 2, OUTSIDE), a(MAKE, 1, 0), a(STORE, 1, 1, 2), a(MAKE, 2, 3),
            a(FREEZE, 2));
        due("done", run(m), ENDED);
        due("eight ITEMS", m.size(1), 8);
        due("no ITEMS", m.size(2), 0);
        due("NOTHING", m.size(3), NONE);
        due("ITEM 7", m.item(1, 7), -2);
        due("ITEM 8", m.item(1, 8), 0);
        due("ITEM -1", m.item(1, -1), 0);
        due("ITEM MIN", m.item(1, MIN), 0);
        due("ITEM MAX", m.item(1, MAX), 0);
        due("of a ROW without ITEMS", m.item(2, 0), 0);
        due("of NOTHING", m.item(3, 0), 0);
        due("of the next ROW", m.item(0, 15), 0);
        due("frozen", m.frozen(2), 1);
        due("not frozen", m.frozen(1), 0);
        due("NOTHING is not", m.frozen(3), 0);
        for (int r : new int[] {-1, 4, MIN, MAX}) {
            due("size", m.size(r), OUTSIDE);
            due("item", m.item(r, 0), OUTSIDE);
            due("frozen", m.frozen(r), OUTSIDE);
        }
    }

    private static void promise12() {
        part = "promise 12";
        MutableCells m = with(a(LAZY, 2, 5));
        due("at first", m.put(2, 9), 0);
        due("then", m.put(2, -4), 9);
        due("cell", m.cell(2), -4);
        m.turn(0);
        due("of a LAZY one", m.put(2, 1), 5);
        due("it holds a number", m.lazy(2), 0);
        due("cell", m.cell(2), 1);
        due("not in the LOG", m.writes(), 0);
        due("CELL 8", m.put(8, 1), OUTSIDE);
        due("CELL -1", m.put(-1, 1), OUTSIDE);
        due("no TURN", m.again(), 1);
    }

    private static void promise13And14() {
        part = "promises 13 and 14";
        MutableCells m = new MutableCells();
        acts(m, 2, a(SET, 1, 1), a(ADD, 0, 0, 1), a(PUT, 4, 0), a(JUMP, 1));
        due("none yet", m.write(0, 0), NONE);
        turns(m, 2, 1 + 3 * 30);
        due("thirty", m.writes(), 30);
        due("the oldest", m.write(29, 2), 1);
        due("behind it", m.write(30, 2), NONE);
        turns(m, 2, 3 * 5);
        due("thirty-five", m.writes(), 35);
        for (int i = 0; i < 30; i++) {
            due("THREAD", m.write(i, 0), 2);
            due("CELL", m.write(i, 1), 4);
            due("number", m.write(i, 2), 35 - i);
        }
        due("not kept", m.write(30, 2), NONE);
        due("there is none such", m.write(35, 2), NONE);
        due("MAX", m.write(MAX, 0), NONE);
        due("-1", m.write(-1, 0), NONE);
        due("MIN", m.write(MIN, 0), NONE);
        due("what -1", m.write(0, -1), OUTSIDE);
        due("what 3", m.write(0, 3), OUTSIDE);
        due("OUTSIDE ahead of NONE", m.write(99, 3), OUTSIDE);
        MutableCells lazy = new MutableCells();
        acts(lazy, 0, a(LAZY, 3, 4));
        acts(lazy, 1, a(GET, 0, 3));
        turns(lazy, 0, 1);
        turns(lazy, 1, 1);
        due("the THREAD that reads", lazy.write(0, 0), 1);
        due("the CELL", lazy.write(0, 1), 3);
        due("the number", lazy.write(0, 2), 1);
        MutableCells end = new MutableCells();
        acts(end, 1, a(BEGIN), a(PUT, 7, 0), a(PUT, 0, 0), a(END));
        turns(end, 1, 4);
        due("END writes what is as it was, too", end.writes(), 2);
        due("THREAD", end.write(0, 0), 1);
        due("CELL 7 behind", end.write(0, 1), 7);
        due("CELL 0 ahead", end.write(1, 1), 0);
    }

    /** Changes all that can be changed. */
    private static MutableCells used() {
        MutableCells m = new MutableCells();
        acts(m, 0, a(SET, 0, 3), a(MAKE, 1, 0), a(STORE, 1, 1, 0), a(FREEZE, 1), a(PUT, 2, 0), a(LAZY, 4, 2), a(TRY, 9), a(BEGIN),
            a(PUT, 3, 0));
        acts(m, 1, a(BEGIN), a(GET, 0, 5), a(END), a(THROW, 0));
        turns(m, 0, 9);
        turns(m, 1, 2);
        m.put(5, 4);
        turns(m, 1, 1);
        turns(m, 1, 3);
        due("FAILED", m.told(1, IS), FAILED);
        due("ANEW", m.told(1, ANEWS), 1);
        due("ATOM", m.told(0, ATOM), 1);
        return m;
    }

    private static void promise15() {
        part = "promise 15";
        MutableCells m = used();
        due("TURNS", m.again(), 15);
        isAsAtFirst(m);
        due("with ACTS it GOES", m.told(0, IS), GOES);
        due("with ACTS it GOES", m.told(1, IS), GOES);
        due("without it has ENDED", m.told(2, IS), ENDED);
        due("ACTS are kept", m.act(0, SET, 0, 0, 0), 10);
        due("no TURNS since", m.again(), 0);
        turns(m, 0, 8);
        due("an ATOM that does not know of the one before", m.told(0, ATOM), 1);
        due("row made anew", m.size(1), 3);
        due("TURNS", m.again(), 8);
        MutableCells atom = with(a(BEGIN), a(JUMP0, 0, 3), a(PUT, 1, 0), a(GET, 1, 2), a(END));
        turns(atom, 0, 3);
        atom.put(2, 5);
        atom.again();
        turns(atom, 0, 2);
        due("what was read ahead of again() is forgotten", turns(atom, 0, 2), ENDED);
        due("ANEW", atom.told(0, ANEWS), 0);
    }

    private static void promise16() {
        part = "promise 16";
        MutableCells m = used();
        due("TURNS", m.clear(), 15);
        isAsAtFirst(m);
        for (int t = 0; t < 3; t++) {
            due("ENDED", m.told(t, IS), ENDED);
            due("turn", m.turn(t), STATE);
        }
        due("ACTS are not kept", m.act(0, SET, 0, 6, 0), 1);
        due("turn", m.turn(0), ENDED);
        due("register", m.register(0, 0), 6);
        due("TURNS", m.clear(), 1);
        due("no TURNS since", m.clear(), 0);
    }

    private static void constants() {
        part = "constants";
        due("NONE", MutableCells.NONE, NONE);
        due("OUTSIDE", MutableCells.OUTSIDE, OUTSIDE);
        due("STATE", MutableCells.STATE, STATE);
        due("ROOM", MutableCells.ROOM, ROOM);
    }
}
