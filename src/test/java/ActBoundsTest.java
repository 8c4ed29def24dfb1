/** The boundary cases of each KIND of ACT. A test for each sentence of the document. */
public final class ActBoundsTest extends Words {
    public static void main(String[] args) {
        setTakesAnyNumber();
        getAndPut();
        addWraps();
        subWraps();
        mulWraps();
        divCutsAndFails();
        loadFailures();
        storeFailures();
        swapThatDoesAndDoesNot();
        jumps();
        jumpsIfZero();
        tryFour();
        doneNone();
        throwLowestThreeBits();
        makeBelow0AndAbove8();
        makeAnew();
        freezeNothing();
        lazyWithItself();
        readingWraps();
        readingRings();
        readingChains();
        placeBehindTheLastAct();
        failureWithTry();
        failureWithoutTry();
        endedOrNot();
        check.finish();
    }

    private static void setTakesAnyNumber() {
        part = "SET: r(x) is y";
        for (int x = 0; x < 4; x++) {
            for (int y : new int[] {MIN, -1, 0, 1, MAX}) {
                MutableCells m = with(a(SET, x, y, MIN));
                due("turn", m.turn(0), ENDED);
                for (int i = 0; i < 4; i++) {
                    due("r(" + i + ")", m.register(0, i), i == x ? y : 0);
                }
            }
        }
    }

    private static void getAndPut() {
        part = "GET: r(x) is CELL y; PUT: CELL x is r(y)";
        for (int c : new int[] {0, 7}) {
            for (int i : new int[] {0, 3}) {
                MutableCells m = with(a(GET, i, c), a(PUT, 7 - c, i), a(PUT, c, 3 - i));
                m.put(c, MIN);
                turns(m, 0, 1);
                due("r(x)", m.register(0, i), MIN);
                due("the other end", m.register(0, 3 - i), 0);
                due("GET is no write", m.writes(), 0);
                turns(m, 0, 1);
                due("CELL x", m.cell(7 - c), MIN);
                due("PUT is one", m.writes(), 1);
                due("PUT of what it is not yet", m.turn(0), ENDED);
                due("CELL x", m.cell(c), 0);
                due("a write", m.writes(), 2);
                m.again();
                due("PUT of what it is already", turns(m, 0, 3), ENDED);
                due("a write as well", m.writes(), 2);
            }
        }
    }

    private static int worked(int kind, int first, int second) {
        MutableCells m = with(a(SET, 1, first), a(SET, 2, second), a(kind, 3, 1, 2));
        due("no FAILURE", run(m), ENDED);
        due("r(y) stays", m.register(0, 1), first);
        due("r(z) stays", m.register(0, 2), second);
        return m.register(0, 3);
    }

    private static void addWraps() {
        part = "ADD; numbers are ints that wrap";
        due("the highest", worked(ADD, MAX - 1, 1), MAX);
        due("behind it", worked(ADD, MAX, 1), MIN);
        due("the lowest", worked(ADD, MIN + 1, -1), MIN);
        due("ahead of it", worked(ADD, MIN, -1), MAX);
        due("MAX twice", worked(ADD, MAX, MAX), -2);
        due("MIN twice", worked(ADD, MIN, MIN), 0);
    }

    private static void subWraps() {
        part = "SUB; numbers are ints that wrap";
        due("the highest", worked(SUB, MAX - 1, -1), MAX);
        due("behind it", worked(SUB, MAX, -1), MIN);
        due("the lowest", worked(SUB, MIN + 1, 1), MIN);
        due("ahead of it", worked(SUB, MIN, 1), MAX);
        due("0 less MIN", worked(SUB, 0, MIN), MIN);
        due("-1 less MIN", worked(SUB, -1, MIN), MAX);
    }

    private static void mulWraps() {
        part = "MUL; numbers are ints that wrap";
        due("the highest square", worked(MUL, 46340, 46340), 2147395600);
        due("the next", worked(MUL, 46341, 46341), -2147479015);
        due("the lowest", worked(MUL, -1073741824, 2), MIN);
        due("ahead of it", worked(MUL, -1073741825, 2), MAX - 1);
        due("MIN by -1", worked(MUL, MIN, -1), MIN);
        due("MAX by -1", worked(MUL, MAX, -1), MIN + 1);
        due("by 0", worked(MUL, MIN, 0), 0);
    }

    private static void divCutsAndFails() {
        part = "DIV: cut towards 0: FAILURE 2 by 0";
        int[][] rows = {{7, 2, 3}, {-7, 2, -3}, {7, -2, -3}, {-7, -2, 3}, {1, 2, 0}, {-1, 2, 0}, {2, 2, 1}, {-2, 2, -1}, {0, -1, 0},
            {MAX, 1, MAX}, {MAX, -1, -MAX}, {MIN, 1, MIN}, {MIN + 1, -1, MAX}, {MIN, -1, MIN}, {MIN, MAX, -1}, {MAX, MIN, 0},
            {MIN, MIN, 1}};
        for (int[] row : rows) {
            due(row[0] + " / " + row[1], worked(DIV, row[0], row[1]), row[2]);
        }
        for (int dividend : new int[] {0, 1, -1, MIN, MAX}) {
            MutableCells m = with(a(SET, 1, dividend), a(SET, 3, 44), a(DIV, 3, 1, 2));
            fails(m, 2, 2);
            due("r(x) stays", m.register(0, 3), 44);
        }
        MutableCells caught = with(a(TRY, 2), a(DIV, 0, 0, 0), a(DIV, 1, 0, 0));
        turns(caught, 0, 2);
        due("r(0) is the FAILURE's number", caught.register(0, 0), 2);
        due("by itself", caught.turn(0), ENDED);
        due("is 1", caught.register(0, 1), 1);
    }

    /** ACTS that make ROW 1 of so many ITEMS, each 5 and its number, then do one ACT with r(1) = i, r(2) = 77. */
    private static MutableCells row(int size, int i, boolean frozen, int... act) {
        MutableCells m = with(a(SET, 0, size), a(MAKE, 1, 0));
        for (int k = 0; k < size && k < 3; k++) {
            acts(m, 0, a(SET, 1, k == 2 ? size - 1 : k), a(SET, 2, 50 + (k == 2 ? size - 1 : k)), a(STORE, 1, 1, 2));
        }
        acts(m, 0, frozen ? a(FREEZE, 1) : a(SET, 3, 0), a(SET, 1, i), a(SET, 2, 77), a(SET, 3, 33), act);
        return m;
    }

    private static void failsAtTheLast(MutableCells m, int failure) {
        due("FAILED", run(m), FAILED);
        due("FAILURE", m.told(0, FAILURE), failure);
    }

    private static void loadFailures() {
        part = "LOAD: FAILURE 1 it is NOTHING; 3 no such ITEM";
        for (int size : new int[] {1, 2, 3, 7, 8}) {
            for (int i : new int[] {0, size - 1}) {
                MutableCells m = row(size, i, i == 0, a(LOAD, 3, 1, 1));
                due("an ITEM", run(m), ENDED);
                due("ITEM " + i + " of " + size, m.register(0, 3), 50 + i);
            }
            for (int i : new int[] {-1, size, MIN, MAX}) {
                MutableCells m = row(size, i, i < 0, a(LOAD, 3, 1, 1));
                failsAtTheLast(m, 3);
                due("r(x) stays", m.register(0, 3), 33);
            }
        }
        for (int i : new int[] {0, -1, 8}) {
            failsAtTheLast(row(0, i, false, a(LOAD, 3, 1, 1)), 3);
            MutableCells nothing = row(8, i, false, a(LOAD, 3, 0, 1));
            failsAtTheLast(nothing, 1);
            due("r(x) stays", nothing.register(0, 3), 33);
        }
    }

    private static void storeFailures() {
        part = "STORE: FAILURE 1 it is NOTHING; 3 no such ITEM; 4 it is FROZEN";
        for (int size : new int[] {1, 2, 3, 7, 8}) {
            for (int i : new int[] {0, size - 1}) {
                MutableCells m = row(size, i, false, a(STORE, 1, 1, 2));
                due("an ITEM", run(m), ENDED);
                due("ITEM " + i + " of " + size, m.item(1, i), 77);
                due("the other end", m.item(1, size - 1 - i), size == 1 ? 77 : 50 + size - 1 - i);
                MutableCells frozen = row(size, i, true, a(STORE, 1, 1, 2));
                failsAtTheLast(frozen, 4);
                due("ITEM " + i + " stays", frozen.item(1, i), 50 + i);
            }
            for (int i : new int[] {-1, size, MIN, MAX}) {
                MutableCells m = row(size, i, i == -1 || i == size, a(STORE, 1, 1, 2));
                failsAtTheLast(m, 3);
                due("the first stays", m.item(1, 0), 50);
                due("the last stays", m.item(1, size - 1), 49 + size);
                due("size", m.size(1), size);
            }
        }
        for (int i : new int[] {0, -1, 8}) {
            failsAtTheLast(row(0, i, true, a(STORE, 1, 1, 2)), 3);
            MutableCells nothing = row(8, i, false, a(STORE, 2, 1, 2));
            failsAtTheLast(nothing, 1);
            due("NOTHING still", nothing.size(2), NONE);
        }
    }

    private static void swapThatDoesAndDoesNot() {
        part = "SWAP: if CELL x is r(y), it is r(z), and r(y) is 1, else r(y) is 0";
        for (int held : new int[] {-1, 0, 1, MIN, MAX}) {
            for (int more : new int[] {-1, 0, 1}) {
                MutableCells m = with(a(SET, 1, held + more), a(SET, 2, 60), a(SWAP, 7, 1, 2));
                m.put(7, held);
                due("turns", run(m), ENDED);
                due("CELL x", m.cell(7), more == 0 ? 60 : held);
                due("r(y)", m.register(0, 1), more == 0 ? 1 : 0);
                due("r(z)", m.register(0, 2), 60);
                due("writes", m.writes(), more == 0 ? 1 : 0);
            }
        }
        MutableCells same = with(a(SET, 3, 9), a(SWAP, 0, 3, 3), a(SWAP, 0, 3, 3));
        same.put(0, 9);
        turns(same, 0, 2);
        due("y is z: CELL x is what r(z) was", same.cell(0), 9);
        due("r(y)", same.register(0, 3), 1);
        due("a write", same.writes(), 1);
        turns(same, 0, 1);
        due("does not", same.register(0, 3), 0);
        due("no write", same.writes(), 1);
    }

    private static void jumps() {
        part = "JUMP: the PLACE is x";
        for (int place : new int[] {0, 1, 2, 3, 4, 5, 23, 24}) {
            MutableCells m = with(a(SET, 1, 1), a(JUMP, place), a(SET, 2, 1), a(SET, 3, 1));
            due("ahead", m.turn(0), GOES);
            due("GOES, or behind the last ACT", m.turn(0), place < 4 ? GOES : ENDED);
            due("PLACE", m.told(0, PLACE), place);
            due("turn", m.turn(0), place > 3 ? STATE : place == 3 ? ENDED : GOES);
        }
        MutableCells itself = with(a(JUMP, 0));
        due("itself", turns(itself, 0, 50), GOES);
        due("TURNS", itself.told(0, TURNS), 50);
        MutableCells full = new MutableCells();
        for (int i = 0; i < 22; i++) {
            acts(full, 0, a(SET, 0, i));
        }
        acts(full, 0, a(JUMP, 24), a(JUMP, 23));
        due("24 ACTS, to 24", turns(full, 0, 23), ENDED);
        due("PLACE", full.told(0, PLACE), 24);
        full.clear();
        acts(full, 0, a(JUMP, 23));
        for (int i = 0; i < 22; i++) {
            acts(full, 0, a(SET, 0, i));
        }
        acts(full, 0, a(JUMP, 23));
        due("24 ACTS, to 23", turns(full, 0, 5), GOES);
        due("PLACE", full.told(0, PLACE), 23);
    }

    private static void jumpsIfZero() {
        part = "JUMP0: if r(x) is 0 the PLACE is y";
        for (int place : new int[] {0, 1, 2, 3, 24}) {
            for (int number : new int[] {0, 1, -1, MIN, MAX}) {
                MutableCells m = with(a(SET, 3, number), a(JUMP0, 3, place), a(SET, 2, 1));
                turns(m, 0, 2);
                int want = number == 0 ? place : 2;
                due("PLACE of " + number, m.told(0, PLACE), want);
                due("what it is", m.told(0, IS), want < 3 ? GOES : ENDED);
            }
        }
    }

    private static void tryFour() {
        part = "TRY: a TRY is open, with PLACE x; 5 four are";
        MutableCells m = with(a(TRY, 10), a(TRY, 11), a(TRY, 12), a(TRY, 13), a(DONE), a(TRY, 6), a(TRY, 9));
        for (int i = 1; i <= 4; i++) {
            due("TRY " + i, m.turn(0), GOES);
            due("TRYS", m.told(0, TRYS), i);
            due("PLACE", m.told(0, PLACE), i);
        }
        turns(m, 0, 1);
        due("DONE", m.told(0, TRYS), 3);
        turns(m, 0, 1);
        due("room for one more", m.told(0, TRYS), 4);
        due("the fifth", m.turn(0), GOES);
        due("it is caught", m.register(0, 0), 5);
        due("TRYS", m.told(0, TRYS), 3);
        due("PLACE of the fourth", m.told(0, PLACE), 6);
        due("room again", m.turn(0), GOES);
        due("TRYS", m.told(0, TRYS), 4);
        due("PLACE", m.told(0, PLACE), 7);
        for (int place : new int[] {9, 12, 11, 10}) {
            due("behind the last ACT", turns(m, 0, 1), place == 10 ? ENDED : GOES);
            due("PLACE", m.told(0, PLACE), place);
        }
        due("TRYS", m.told(0, TRYS), 0);
        for (int place : new int[] {0, 24}) {
            MutableCells ends = with(a(TRY, place), a(THROW, 1));
            due("with PLACE " + place, turns(ends, 0, 2), place == 0 ? GOES : ENDED);
            due("PLACE", ends.told(0, PLACE), place);
        }
    }

    private static void doneNone() {
        part = "DONE: the latest TRY is open no more; 5 none is open";
        fails(with(a(DONE)), 5, 0);
        fails(with(a(TRY, 9), a(DONE), a(DONE)), 5, 2);
        MutableCells m = with(a(TRY, 9), a(TRY, 9), a(TRY, 9), a(TRY, 9), a(DONE), a(DONE), a(DONE), a(DONE), a(DONE));
        turns(m, 0, 4);
        for (int i = 3; i >= 0; i--) {
            due("DONE", m.turn(0), GOES);
            due("TRYS", m.told(0, TRYS), i);
        }
        fails(m, 5, 8);
        MutableCells latest = with(a(TRY, 6), a(TRY, 7), a(DONE), a(THROW, 1));
        turns(latest, 0, 4);
        due("the first catches", latest.told(0, PLACE), 6);
        fails(with(a(TRY, 3), a(THROW, 1), a(SET, 1, 1), a(DONE)), 5, 3);
    }

    private static void throwLowestThreeBits() {
        part = "THROW: FAILURE 10 and the lowest three bits of r(x)";
        int[][] rows = {{0, 10}, {1, 11}, {6, 16}, {7, 17}, {8, 10}, {9, 11}, {15, 17}, {16, 10}, {-1, 17}, {-8, 10}, {-9, 17},
            {MIN, 10}, {MAX, 17}};
        for (int[] row : rows) {
            fails(with(a(SET, 3, row[0]), a(THROW, 3)), row[1], 1);
            MutableCells caught = with(a(TRY, 3), a(SET, 3, row[0]), a(THROW, 3), a(SET, 1, 1));
            turns(caught, 0, 3);
            due("r(0)", caught.register(0, 0), row[1]);
            due("r(x) stays", caught.register(0, 3), row[0]);
        }
        MutableCells zero = with(a(TRY, 3), a(SET, 0, 5), a(THROW, 0), a(SET, 1, 1));
        turns(zero, 0, 3);
        due("of r(0) itself", zero.register(0, 0), 15);
    }

    private static void makeBelow0AndAbove8() {
        part = "MAKE: 6 r(y) is below 0; 7 above 8";
        for (int size : new int[] {0, 1, 7, 8}) {
            MutableCells m = with(a(SET, 2, size), a(MAKE, 3, 2));
            due("of " + size, run(m), ENDED);
            due("size", m.size(3), size);
        }
        for (int[] row : new int[][] {{-1, 6}, {MIN, 6}, {9, 7}, {MAX, 7}}) {
            MutableCells m = with(a(SET, 2, row[0]), a(MAKE, 3, 2));
            fails(m, row[1], 1);
            due("NOTHING still", m.size(3), NONE);
            MutableCells held = row(3, row[0], true, a(MAKE, 1, 1));
            failsAtTheLast(held, row[1]);
            due("as it was", held.size(1), 3);
            due("FROZEN as it was", held.frozen(1), 1);
            due("ITEM as it was", held.item(1, 2), 52);
        }
    }

    private static void makeAnew() {
        part = "MAKE: ROW x is a new one of r(y) ITEMS, 0 each, not FROZEN";
        for (int size : new int[] {0, 1, 7, 8}) {
            for (boolean frozen : new boolean[] {false, true}) {
                MutableCells m = row(8, size, frozen, a(MAKE, 1, 1));
                due("of a ROW that is", run(m), ENDED);
                due("size", m.size(1), size);
                due("not FROZEN", m.frozen(1), 0);
                for (int i = 0; i < 9; i++) {
                    due("ITEM", m.item(1, i), 0);
                }
            }
        }
        MutableCells longer = row(2, 8, true, a(MAKE, 1, 1));
        acts(longer, 0, a(SET, 1, 7), a(STORE, 1, 1, 2));
        due("from two to eight, and a STORE", run(longer), ENDED);
        due("size", longer.size(1), 8);
        due("ITEM 0", longer.item(1, 0), 0);
        due("ITEM 7", longer.item(1, 7), 77);
    }

    private static void freezeNothing() {
        part = "FREEZE: ROW x is FROZEN; 1";
        for (int r = 0; r < 4; r++) {
            MutableCells m = with(a(FREEZE, r));
            fails(m, 1, 0);
            due("not FROZEN", m.frozen(r), 0);
            due("NOTHING", m.size(r), NONE);
        }
        MutableCells empty = with(a(MAKE, 0, 0), a(FREEZE, 0), a(FREEZE, 0));
        due("a ROW without ITEMS, twice", run(empty), ENDED);
        due("FROZEN", empty.frozen(0), 1);
        due("its neighbour is not", empty.frozen(1), 0);
    }

    private static void lazyWithItself() {
        part = "LAZY: with a number w of another CELL, or of itself";
        for (int c : new int[] {0, 7}) {
            MutableCells m = with(a(LAZY, c, c), a(TRY, 4), a(GET, 1, c), a(DONE), a(SET, 2, 4), a(PUT, c, 2), a(GET, 1, c));
            m.put(c, 30);
            turns(m, 0, 1);
            due("LAZY", m.lazy(c), 1);
            due("with itself", m.cell(c), c);
            due("LAZY is no write", m.writes(), 0);
            turns(m, 0, 2);
            due("a ring of one", m.register(0, 0), 8);
            due("r(x) stays", m.register(0, 1), 0);
            due("LAZY still", m.lazy(c), 1);
            due("PUT, then read", run(m), ENDED);
            due("r(x)", m.register(0, 1), 4);
            due("LAZY no more", m.lazy(c), 0);
        }
    }

    private static void readingWraps() {
        part = "it holds twice that and 1; numbers are ints that wrap";
        int[][] rows = {{0, 1}, {-1, -1}, {1073741823, MAX}, {1073741824, MIN + 1}, {-1073741824, MIN + 1}, {-1073741825, MAX},
            {MAX, -1}, {MIN, 1}};
        for (int[] row : rows) {
            MutableCells m = with(a(LAZY, 7, 0), a(GET, 2, 7));
            m.put(0, row[0]);
            due("turns", turns(m, 0, 2), ENDED);
            due("CELL of " + row[0], m.cell(7), row[1]);
            due("REGISTER", m.register(0, 2), row[1]);
            due("write", m.write(0, 2), row[1]);
            due("the other stays", m.cell(0), row[0]);
        }
    }

    /** ACTS by which CELLS from 0 on are each LAZY with the next, the last with CELL back; then GET from CELL 0. */
    private static MutableCells chain(int length, int back) {
        MutableCells m = new MutableCells();
        for (int c = 0; c < length; c++) {
            acts(m, 0, a(LAZY, c, c == length - 1 ? back : c + 1));
        }
        acts(m, 0, a(GET, 2, 0));
        return m;
    }

    private static void readingRings() {
        part = "FAILURE 8 if it is being read already (a ring); the others stay LAZY";
        for (int length = 1; length <= 8; length++) {
            for (int back = 0; back < length; back++) {
                MutableCells m = chain(length, back);
                fails(m, 8, length);
                due("r(x) stays", m.register(0, 2), 0);
                due("nothing is written", m.writes(), 0);
                for (int c = 0; c < length; c++) {
                    due("LAZY still", m.lazy(c), 1);
                    due("with as before", m.cell(c), c == length - 1 ? back : c + 1);
                }
            }
        }
        MutableCells mended = with(a(LAZY, 0, 1), a(LAZY, 1, 0), a(TRY, 4), a(GET, 2, 0), a(SET, 1, 3), a(PUT, 0, 1), a(GET, 2, 1));
        due("a ring that is opened", run(mended), ENDED);
        due("the other reads it", mended.register(0, 2), 7);
    }

    private static void readingChains() {
        part = "else the CELL that it is LAZY with is read, and it holds twice that and 1 from then on";
        for (int length = 1; length <= 7; length++) {
            MutableCells m = chain(length, length);
            m.put(length, 5);
            due("no ring", run(m), ENDED);
            int number = 5;
            due("each a write", m.writes(), length);
            for (int c = length - 1; c >= 0; c--) {
                number = 2 * number + 1;
                due("CELL", m.cell(c), number);
                due("LAZY no more", m.lazy(c), 0);
                due("the last worked out first", m.write(c, 1), c);
                due("its number", m.write(c, 2), number);
                due("its THREAD", m.write(c, 0), 0);
            }
            due("r(x)", m.register(0, 2), number);
        }
        MutableCells once = with(a(LAZY, 0, 1), a(GET, 2, 0), a(SET, 1, 50), a(PUT, 1, 1), a(GET, 3, 0));
        due("from then on", run(once), ENDED);
        due("not worked out anew", once.register(0, 3), 1);
    }

    private static void placeBehindTheLastAct() {
        part = "A PLACE behind the last ACT with a TRY or an ATOM open: FAILURE 5 as well";
        for (int place : new int[] {2, 3, 23, 24}) {
            MutableCells one = with(a(TRY, place), a(JUMP, place));
            due("with a TRY", turns(one, 0, 2), GOES);
            due("PLACE", one.told(0, PLACE), place);
            due("FAILURE 5", one.turn(0), ENDED);
            due("r(0)", one.register(0, 0), 5);
            due("PLACE", one.told(0, PLACE), place);
            due("it did not FAIL", one.told(0, FAILURE), 0);
            due("a TURN", one.told(0, TURNS), 3);
            MutableCells atom = with(a(BEGIN), a(JUMP, place));
            due("with an ATOM", turns(atom, 0, 2), GOES);
            fails(atom, 5, place);
            due("a TURN", atom.told(0, TURNS), 3);
        }
        MutableCells last = with(a(TRY, 2), a(DONE));
        due("closed by the last ACT", turns(last, 0, 2), ENDED);
        MutableCells atom = with(a(BEGIN), a(END));
        due("over by the last ACT", turns(atom, 0, 2), ENDED);
        MutableCells none = with(a(JUMP, 1));
        due("neither", none.turn(0), ENDED);
        due("no FAILURE", none.told(0, FAILURE), 0);
        due("no TURN", none.turn(0), STATE);
    }

    private static void failureWithTry() {
        part = "A FAILURE: the latest TRY is open no more, r(0) is the FAILURE's number, the PLACE is that TRY's";
        MutableCells m = with(a(SET, 0, 90), a(SET, 1, 91), a(SET, 2, 92), a(SET, 3, 93), a(TRY, 8), a(TRY, 10), a(LOAD, 3, 0, 0),
            a(SET, 1, 0), a(SET, 2, 0), a(SET, 3, 0), a(DIV, 1, 1, 0));
        turns(m, 0, 7);
        due("r(0)", m.register(0, 0), 1);
        for (int i = 1; i < 4; i++) {
            due("others stay", m.register(0, i), 90 + i);
        }
        due("PLACE", m.told(0, PLACE), 10);
        due("TRYS", m.told(0, TRYS), 1);
        due("GOES", m.told(0, IS), GOES);
        due("none that it FAILED by", m.told(0, FAILURE), 0);
        due("on, the other TRY is open", m.turn(0), GOES);
        due("91 / 1", m.register(0, 1), 91);
        due("behind the last ACT", m.turn(0), GOES);
        due("PLACE of the other", m.told(0, PLACE), 8);
        due("TRYS", m.told(0, TRYS), 0);
    }

    private static void failureWithoutTry() {
        part = "Without one the THREAD has FAILED (the PLACE stays at the ACT)";
        int[][] failing = {a(DIV, 0, 0, 3), a(LOAD, 0, 0, 0), a(STORE, 0, 0, 0), a(END), a(DONE), a(THROW, 3), a(FREEZE, 0)};
        int[] failures = {2, 1, 1, 5, 5, 10, 1};
        for (int i = 0; i < failing.length; i++) {
            MutableCells m = with(a(SET, 0, 9), failing[i], a(SET, 1, 1));
            acts(m, 1, a(SET, 1, 1));
            fails(m, failures[i], 1);
            due("r(0) stays", m.register(0, 0), 9);
            due("no more TURNS", m.turn(0), STATE);
            due("TURNS", m.told(0, TURNS), 2);
            due("others GO", m.turn(1), ENDED);
            due("with none other that GOES", m.play(1, 5), 0);
            m.again();
            due("again(): it GOES", m.told(0, IS), GOES);
            due("again(): by none", m.told(0, FAILURE), 0);
        }
        MutableCells last = with(a(THROW, 0));
        fails(last, 10, 0);
        MutableCells first = with(a(TRY, 2), a(THROW, 0), a(SET, 1, 7), a(THROW, 1));
        fails(first, 17, 3);
    }

    private static void endedOrNot() {
        part = "ENDED: its PLACE is behind its last ACT, none of its TRYS, no ATOM is open; at first, too, without ACTS";
        for (int t = 0; t < 3; t++) {
            MutableCells m = new MutableCells();
            due("without ACTS", m.told(t, IS), ENDED);
            due("without ACTS", m.turn(t), STATE);
            acts(m, t, a(TRY, 24));
            due("with one", m.told(t, IS), GOES);
            due("a TRY", m.turn(t), GOES);
            due("PLACE", m.told(t, PLACE), 1);
            m.clear();
            due("clear(): without ACTS", m.told(t, IS), ENDED);
            acts(m, t, a(BEGIN));
            due("an ATOM", m.turn(t), GOES);
            m.again();
            acts(m, t, a(END));
            due("an ATOM, over", turns(m, t, 2), ENDED);
            m.clear();
            acts(m, t, a(SET, 0, 0), a(SET, 0, 0));
            due("ahead of the last ACT", m.turn(t), GOES);
            due("behind it", m.turn(t), ENDED);
        }
    }
}
