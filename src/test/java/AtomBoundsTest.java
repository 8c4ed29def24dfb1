/** The boundary cases of ATOMS. A test for each sentence of the document. */
public final class AtomBoundsTest extends Words {
    public static void main(String[] args) {
        beginOneAlready();
        endNoneOpen();
        endWithTryOpened();
        doneOpenedAhead();
        tryFourInAtom();
        barredAheadOfAll();
        cellsAsPut();
        othersComeBetween();
        lazyCellsInAtoms();
        anotherNumberThanFirst();
        readBeforePut();
        lazyAtEnd();
        anewIsAsBehindBegin();
        anewForgets();
        countsAtOnceByCells();
        failureOfTryAhead();
        failureOfTryInside();
        failureWithoutTry();
        check.finish();
    }

    private static void beginOneAlready() {
        part = "BEGIN: an ATOM is open; 5 one is already";
        MutableCells m = with(a(BEGIN), a(BEGIN));
        due("BEGIN", m.turn(0), GOES);
        due("open", m.told(0, ATOM), 1);
        due("others have none", m.told(1, ATOM), 0);
        fails(m, 5, 1);
        due("over", m.told(0, ATOM), 0);
        MutableCells next = with(a(BEGIN), a(END), a(BEGIN), a(END));
        turns(next, 0, 2);
        due("one behind another", next.turn(0), GOES);
        due("open", next.told(0, ATOM), 1);
        due("END", next.turn(0), ENDED);
        MutableCells three = new MutableCells();
        for (int t = 0; t < 3; t++) {
            acts(three, t, a(BEGIN), a(END));
            due("each THREAD its own", three.turn(t), GOES);
        }
        for (int t = 0; t < 3; t++) {
            due("open", three.told(t, ATOM), 1);
            due("END", three.turn(t), ENDED);
        }
    }

    private static void endNoneOpen() {
        part = "END: 5 none is open";
        fails(with(a(END)), 5, 0);
        fails(with(a(BEGIN), a(END), a(END)), 5, 2);
        fails(with(a(TRY, 4), a(BEGIN), a(THROW, 0), a(END), a(END)), 5, 4);
        MutableCells others = with(a(BEGIN), a(END));
        acts(others, 1, a(END));
        others.turn(0);
        due("another's ATOM is not its own", others.turn(1), FAILED);
    }

    private static void endWithTryOpened() {
        part = "END: 5 a TRY that was opened in it is open";
        MutableCells one = with(a(BEGIN), a(TRY, 3), a(END), a(SET, 1, 1));
        due("END", turns(one, 0, 3), GOES);
        due("FAILURE 5", one.register(0, 0), 5);
        due("the ATOM is open", one.told(0, ATOM), 1);
        for (int ahead = 0; ahead < 4; ahead++) {
            MutableCells m = new MutableCells();
            for (int i = 0; i < ahead; i++) {
                acts(m, 0, a(TRY, 24));
            }
            acts(m, 0, a(BEGIN), a(TRY, 23), a(DONE), a(END), a(SET, 1, 1));
            due("DONE ahead of END", turns(m, 0, ahead + 4), GOES);
            due("over", m.told(0, ATOM), 0);
            due("TRYS opened ahead of it stay", m.told(0, TRYS), ahead);
            due("no FAILURE", m.register(0, 0), 0);
            MutableCells open = new MutableCells();
            for (int i = 0; i < ahead; i++) {
                acts(open, 0, a(TRY, 24));
            }
            acts(open, 0, a(BEGIN), a(PUT, 1, 1), a(TRY, ahead + 4), a(END), a(END), a(SET, 1, 1));
            turns(open, 0, ahead + 4);
            due("the TRY catches it", open.register(0, 0), 5);
            due("the ATOM is open", open.told(0, ATOM), 1);
            due("nothing counts yet", open.writes(), 0);
            due("TRYS", open.told(0, TRYS), ahead);
            due("END", open.turn(0), GOES);
            due("over", open.told(0, ATOM), 0);
            due("counts", open.writes(), 1);
        }
    }

    private static void doneOpenedAhead() {
        part = "DONE: 5 it was opened ahead of the open ATOM";
        for (int ahead = 1; ahead <= 4; ahead++) {
            MutableCells m = new MutableCells();
            for (int i = 0; i < ahead; i++) {
                acts(m, 0, a(TRY, 20 + i));
            }
            acts(m, 0, a(BEGIN), a(DONE));
            due("DONE", turns(m, 0, ahead + 2), ahead == 1 ? ENDED : GOES);
            due("FAILURE 5", m.register(0, 0), 5);
            due("the latest catches it", m.told(0, PLACE), 19 + ahead);
            due("TRYS", m.told(0, TRYS), ahead - 1);
            due("the ATOM is over", m.told(0, ATOM), 0);
        }
        fails(with(a(BEGIN), a(DONE)), 5, 1);
        fails(with(a(BEGIN), a(TRY, 9), a(DONE), a(DONE)), 5, 3);
        MutableCells one = with(a(TRY, 9), a(BEGIN), a(TRY, 9), a(DONE), a(END), a(DONE));
        due("opened in it; and behind END", run(one), ENDED);
        due("no FAILURE", one.register(0, 0), 0);
    }

    private static void tryFourInAtom() {
        part = "TRY: 5 four are, ahead of an ATOM and in it";
        for (int ahead = 0; ahead <= 4; ahead++) {
            MutableCells m = new MutableCells();
            for (int i = 0; i < ahead; i++) {
                acts(m, 0, a(TRY, 20));
            }
            acts(m, 0, a(BEGIN));
            for (int i = ahead; i < 5; i++) {
                acts(m, 0, a(TRY, 21));
            }
            due("four", turns(m, 0, 5), GOES);
            due("TRYS", m.told(0, TRYS), 4);
            due("ATOM", m.told(0, ATOM), 1);
            due("the fifth", m.turn(0), GOES);
            due("FAILURE 5", m.register(0, 0), 5);
            due("TRYS", m.told(0, TRYS), 3);
            due("the ATOM is over if the fourth was opened ahead of it", m.told(0, ATOM), ahead == 4 ? 0 : 1);
            due("PLACE", m.told(0, PLACE), ahead == 4 ? 20 : 21);
        }
    }

    private static void barredAheadOfAll() {
        part = "7, 8, 17 to 19 in an ATOM: 5, ahead of all";
        int[] numbers = {-1, 0, 8, 9};
        int[][] barred = {a(LOAD, 2, 1, 1), a(LOAD, 2, 0, 1), a(STORE, 1, 1, 1), a(STORE, 0, 1, 1), a(MAKE, 1, 1), a(MAKE, 0, 1),
            a(FREEZE, 1), a(FREEZE, 0), a(LAZY, 0, 1), a(LAZY, 0, 0)};
        for (int[] act : barred) {
            for (int number : numbers) {
                MutableCells m = with(a(SET, 1, 1), a(MAKE, 1, 1), a(FREEZE, 1), a(SET, 1, number), a(BEGIN), act);
                fails(m, 5, 5);
                due("the ROW is as it was", m.size(1), 1);
                due("FROZEN", m.frozen(1), 1);
                due("NOTHING", m.size(0), NONE);
                due("no LAZY CELL", m.lazy(0), 0);
                due("r(x) stays", m.register(0, 2), 0);
            }
            MutableCells caught = with(a(BEGIN), a(TRY, 3), act, a(END));
            due("caught in it", run(caught), ENDED);
            due("FAILURE 5", caught.register(0, 0), 5);
            due("the ATOM went on to its END", caught.told(0, FAILURE), 0);
        }
        int[][] free = {a(SET, 1, 1), a(GET, 1, 1), a(PUT, 1, 1), a(ADD, 1, 1, 1), a(SUB, 1, 1, 1), a(MUL, 1, 1, 1), a(DIV, 1, 2, 3),
            a(SWAP, 1, 1, 1), a(JUMP, 3), a(JUMP0, 0, 3), a(TRY, 9)};
        for (int[] act : free) {
            MutableCells m = with(a(SET, 3, 1), a(BEGIN), act, a(SET, 1, 1));
            due("KIND " + act[0] + " is not barred", turns(m, 0, 3), GOES);
            due("ATOM", m.told(0, ATOM), 1);
            due("PLACE", m.told(0, PLACE), 3);
        }
        MutableCells behind = with(a(BEGIN), a(END), a(SET, 1, 1), a(MAKE, 0, 1), a(STORE, 0, 2, 1), a(LOAD, 3, 0, 2), a(FREEZE, 0),
            a(LAZY, 0, 1));
        due("behind END", run(behind), ENDED);
    }

    private static void cellsAsPut() {
        part = "In an ATOM CELLS are as the THREAD has PUT them in it, else as they are";
        MutableCells m = with(a(SET, 1, 5), a(BEGIN), a(GET, 2, 7), a(PUT, 7, 1), a(GET, 3, 7), a(SET, 1, 6), a(PUT, 7, 1),
            a(GET, 2, 7), a(SWAP, 7, 1, 3), a(GET, 1, 7), a(END));
        m.put(7, 2);
        turns(m, 0, 3);
        due("as it is", m.register(0, 2), 2);
        turns(m, 0, 2);
        due("as PUT", m.register(0, 3), 5);
        turns(m, 0, 3);
        due("as PUT once more", m.register(0, 2), 6);
        turns(m, 0, 1);
        due("SWAP looks at what was PUT", m.register(0, 1), 1);
        turns(m, 0, 1);
        due("as PUT by SWAP", m.register(0, 1), 5);
        due("nothing counts yet", m.cell(7), 2);
        due("END", m.turn(0), ENDED);
        due("the last that was PUT", m.cell(7), 5);
        due("one write", m.writes(), 1);
        MutableCells no = with(a(SET, 1, 5), a(BEGIN), a(SWAP, 0, 1, 2), a(END));
        due("a SWAP that does not", run(no), ENDED);
        due("PUTS nothing", no.writes(), 0);
        due("r(y)", no.register(0, 1), 0);
    }

    private static void othersComeBetween() {
        part = "what others do comes at any time between";
        MutableCells m = with(a(BEGIN), a(GET, 1, 3), a(GET, 2, 3), a(PUT, 4, 2), a(END));
        acts(m, 1, a(SET, 1, 8), a(PUT, 3, 1), a(GET, 2, 4));
        turns(m, 0, 2);
        turns(m, 1, 2);
        turns(m, 0, 2);
        due("r(1)", m.register(0, 1), 0);
        due("r(2)", m.register(0, 2), 8);
        turns(m, 1, 1);
        due("others do not see what is PUT", m.register(1, 2), 0);
        due("ANEW", m.turn(0), GOES);
        due("ANEW", m.told(0, ANEWS), 1);
        due("then END", turns(m, 0, 4), ENDED);
        due("counts", m.cell(4), 8);
    }

    private static void lazyCellsInAtoms() {
        part = "A CELL that is LAZY: FAILURE 5 when it is read, unless the THREAD has PUT it";
        for (int c : new int[] {0, 7}) {
            fails(with(a(LAZY, c, 3), a(BEGIN), a(GET, 2, c)), 5, 2);
            fails(with(a(LAZY, c, 3), a(BEGIN), a(SWAP, c, 2, 2)), 5, 2);
            fails(with(a(LAZY, c, c), a(BEGIN), a(GET, 2, c)), 5, 2);
            MutableCells put = with(a(LAZY, c, 3), a(SET, 1, 6), a(BEGIN), a(PUT, c, 1), a(GET, 2, c), a(SWAP, c, 2, 3), a(END));
            turns(put, 0, 5);
            due("PUT", put.register(0, 2), 6);
            due("LAZY still", put.lazy(c), 1);
            due("with", put.cell(c), 3);
            due("SWAP, END", run(put), ENDED);
            due("r(y)", put.register(0, 2), 1);
            due("LAZY no more", put.lazy(c), 0);
            due("CELL", put.cell(c), 0);
            due("writes", put.writes(), 1);
            MutableCells ahead = with(a(LAZY, c, 3), a(GET, 1, c), a(BEGIN), a(GET, 2, c), a(END));
            due("worked out ahead of it", run(ahead), ENDED);
            due("r(2)", ahead.register(0, 2), 1);
            MutableCells unread = with(a(LAZY, c, 3), a(BEGIN), a(END));
            due("not read", run(unread), ENDED);
            due("LAZY still", unread.lazy(c), 1);
            MutableCells byHand = with(a(LAZY, c, 3), a(BEGIN), a(GET, 2, c), a(END));
            turns(byHand, 0, 2);
            byHand.put(c, 4);
            due("put by hand ahead of reading", run(byHand), ENDED);
            due("r(2)", byHand.register(0, 2), 4);
        }
        MutableCells over = with(a(LAZY, 0, 3), a(TRY, 5), a(BEGIN), a(PUT, 0, 1), a(THROW, 1), a(BEGIN), a(GET, 2, 0), a(END));
        turns(over, 0, 5);
        due("GOES", over.told(0, IS), GOES);
        due("what an ATOM that is over has PUT does not help", turns(over, 0, 2), FAILED);
        due("FAILURE", over.told(0, FAILURE), 5);
    }

    /** GET of CELL 5 as 0, then it is put by hand to each of these, then END: how often ANEW. */
    private static int anewBehind(int... numbers) {
        MutableCells m = with(a(BEGIN), a(GET, 1, 5), a(END));
        turns(m, 0, 2);
        for (int number : numbers) {
            m.put(5, number);
        }
        due("END", m.turn(0), m.told(0, ANEWS) == 0 ? ENDED : GOES);
        return m.told(0, ANEWS);
    }

    private static void anotherNumberThanFirst() {
        part = "At END: if a CELL that was read in it holds another number now than when it was read first";
        due("as it was", anewBehind(), 0);
        due("the same by hand", anewBehind(0), 0);
        due("1", anewBehind(1), 1);
        due("-1", anewBehind(-1), 1);
        due("MIN", anewBehind(MIN), 1);
        due("MAX", anewBehind(MAX), 1);
        due("another and back", anewBehind(7, 0), 0);
        due("back and another", anewBehind(0, 7), 1);
        for (int c = 0; c < 8; c++) {
            MutableCells m = new MutableCells();
            acts(m, 0, a(BEGIN));
            for (int k = 0; k < 8; k++) {
                acts(m, 0, a(GET, 1, k));
            }
            acts(m, 0, a(END));
            turns(m, 0, 9);
            m.put(c, 1);
            due("any of those that were read", m.turn(0), GOES);
            due("ANEW", m.told(0, ANEWS), 1);
            due("PLACE", m.told(0, PLACE), 1);
            MutableCells one = with(a(BEGIN), a(GET, 1, c), a(END));
            turns(one, 0, 2);
            for (int k = 0; k < 8; k++) {
                one.put(k, k == c ? 0 : 9);
            }
            due("none of those that were not", one.turn(0), ENDED);
        }
        MutableCells first = with(a(BEGIN), a(GET, 1, 5), a(GET, 2, 5), a(END));
        turns(first, 0, 2);
        first.put(5, 3);
        turns(first, 0, 1);
        first.put(5, 0);
        due("as when it was read first", first.turn(0), ENDED);
        MutableCells second = with(a(BEGIN), a(GET, 1, 5), a(GET, 2, 5), a(END));
        turns(second, 0, 2);
        second.put(5, 3);
        turns(second, 0, 1);
        due("as when it was read again", second.turn(0), GOES);
        due("ANEW", second.told(0, ANEWS), 1);
        MutableCells swap = with(a(BEGIN), a(SET, 1, 4), a(SWAP, 5, 1, 2), a(END));
        turns(swap, 0, 3);
        swap.put(5, 1);
        due("read by a SWAP that does not", swap.turn(0), GOES);
        MutableCells by = with(a(BEGIN), a(GET, 1, 5), a(END));
        acts(by, 1, a(SET, 1, 1), a(PUT, 5, 1));
        turns(by, 0, 2);
        turns(by, 1, 2);
        due("by another THREAD", by.turn(0), GOES);
        due("ANEW", by.told(0, ANEWS), 1);
        due("not the other", by.told(1, ANEWS), 0);
    }

    private static void readBeforePut() {
        part = "a CELL that was read in it, before it was PUT there";
        MutableCells before = with(a(BEGIN), a(GET, 1, 5), a(PUT, 5, 1), a(GET, 2, 5), a(END));
        turns(before, 0, 4);
        before.put(5, 2);
        due("read, PUT", before.turn(0), GOES);
        due("ANEW", before.told(0, ANEWS), 1);
        MutableCells behind = with(a(BEGIN), a(PUT, 5, 1), a(GET, 2, 5), a(SWAP, 5, 1, 1), a(END));
        turns(behind, 0, 4);
        behind.put(5, 2);
        due("PUT, read", behind.turn(0), ENDED);
        due("counts", behind.cell(5), 0);
        MutableCells swap = with(a(BEGIN), a(SWAP, 5, 1, 2), a(END));
        turns(swap, 0, 2);
        swap.put(5, 2);
        due("a SWAP reads ahead of its PUT", swap.turn(0), GOES);
        MutableCells only = with(a(BEGIN), a(PUT, 5, 1), a(END));
        turns(only, 0, 2);
        only.put(5, 2);
        due("only PUT", only.turn(0), ENDED);
        due("counts", only.cell(5), 0);
        MutableCells own = with(a(BEGIN), a(SET, 1, 9), a(GET, 2, 5), a(PUT, 5, 1), a(END));
        due("its own PUT is not another number", run(own), ENDED);
        due("counts", own.cell(5), 9);
    }

    private static void lazyAtEnd() {
        part = "or is LAZY: the ATOM is begun ANEW";
        for (int c : new int[] {0, 7}) {
            for (int with : new int[] {0, 3, 7}) {
                MutableCells m = with(a(BEGIN), a(GET, 1, c), a(END));
                acts(m, 1, a(LAZY, c, with), a(GET, 2, c));
                m.put(c, with);
                turns(m, 0, 2);
                turns(m, 1, 1);
                due("shown as the number that was read", m.cell(c), with);
                due("END", m.turn(0), GOES);
                due("ANEW", m.told(0, ANEWS), 1);
                due("nothing is worked out by END", m.lazy(c), 1);
                due("then reading FAILS", m.turn(0), FAILED);
                due("FAILURE 5", m.told(0, FAILURE), 5);
            }
        }
        MutableCells put = with(a(BEGIN), a(PUT, 5, 1), a(GET, 1, 5), a(END));
        acts(put, 1, a(LAZY, 5, 6));
        turns(put, 0, 3);
        turns(put, 1, 1);
        due("PUT, then LAZY", put.turn(0), ENDED);
        due("LAZY no more", put.lazy(5), 0);
        MutableCells same = with(a(BEGIN), a(GET, 1, 5), a(END));
        acts(same, 1, a(LAZY, 5, 6), a(GET, 2, 5));
        same.put(5, 1);
        turns(same, 0, 2);
        turns(same, 1, 2);
        due("LAZY, then worked out to the same number", same.turn(0), ENDED);
    }

    private static void anewIsAsBehindBegin() {
        part = "ANEW: the PLACE is behind its BEGIN, REGISTERS and TRYS are as they were behind that, nothing of it counts";
        for (int ahead = 0; ahead < 4; ahead++) {
            MutableCells m = with(a(SET, 0, 10), a(SET, 1, 11), a(SET, 2, 12), a(SET, 3, 13));
            for (int i = 0; i < ahead; i++) {
                acts(m, 0, a(TRY, 24));
            }
            acts(m, 0, a(BEGIN), a(GET, 3, 6), a(TRY, ahead + 11), a(SET, 1, 0), a(PUT, 2, 1), a(DIV, 2, 1, 1), a(SET, 2, 0), a(END));
            turns(m, 0, ahead + 10);
            due("the REGISTERS are others", m.register(0, 0), 2);
            due("END is next", m.told(0, PLACE), ahead + 11);
            m.put(6, 1);
            due("END", m.turn(0), GOES);
            due("PLACE", m.told(0, PLACE), ahead + 5);
            for (int i = 0; i < 4; i++) {
                due("r(" + i + ")", m.register(0, i), 10 + i);
            }
            due("TRYS", m.told(0, TRYS), ahead);
            due("ATOM", m.told(0, ATOM), 1);
            due("ANEW", m.told(0, ANEWS), 1);
            due("nothing counts", m.writes(), 0);
            due("CELL", m.cell(2), 0);
            due("a TURN as any", m.told(0, TURNS), ahead + 11);
        }
        MutableCells leapt = with(a(JUMP, 3), a(END), a(JUMP, 5), a(BEGIN), a(JUMP0, 3, 6), a(SET, 1, 1), a(GET, 1, 6), a(JUMP, 1));
        turns(leapt, 0, 5);
        leapt.put(6, 1);
        turns(leapt, 0, 1);
        due("an END ahead of its BEGIN", leapt.told(0, PLACE), 4);
        MutableCells often = with(a(BEGIN), a(GET, 1, 6), a(END));
        turns(often, 0, 1);
        for (int i = 1; i <= 20; i++) {
            turns(often, 0, 1);
            often.put(6, i);
            due("ANEW", often.turn(0), GOES);
            due("how often", often.told(0, ANEWS), i);
        }
        due("then over", turns(often, 0, 2), ENDED);
        due("how often stays", often.told(0, ANEWS), 20);
        due("again(): none", often.again() - often.told(0, ANEWS), 43);
    }

    private static void anewForgets() {
        part = "ANEW: nothing of it counts";
        MutableCells m = with(a(BEGIN), a(GET, 1, 5), a(JUMP0, 1, 5), a(GET, 2, 0), a(PUT, 3, 1), a(END));
        m.put(5, 1);
        turns(m, 0, 5);
        m.put(5, 0);
        due("END", m.turn(0), GOES);
        m.put(0, 7);
        due("what was read ahead of ANEW does not tell", turns(m, 0, 3), ENDED);
        due("what was PUT ahead of ANEW does not count", m.writes(), 0);
        MutableCells seen = with(a(BEGIN), a(GET, 1, 5), a(JUMP0, 1, 4), a(PUT, 3, 1), a(GET, 2, 3), a(END));
        seen.put(5, 9);
        turns(seen, 0, 5);
        due("PUT", seen.register(0, 2), 9);
        seen.put(5, 0);
        due("END", seen.turn(0), GOES);
        due("GET, JUMP0, GET", turns(seen, 0, 3), GOES);
        due("what was PUT ahead of ANEW is not read", seen.register(0, 2), 0);
    }

    private static void countsAtOnceByCells() {
        part = "Else all that it PUT counts at once, by CELLS";
        MutableCells none = with(a(BEGIN), a(GET, 1, 0), a(END));
        due("nothing PUT", run(none), ENDED);
        due("no writes", none.writes(), 0);
        MutableCells m = new MutableCells();
        acts(m, 2, a(BEGIN));
        int[] order = {7, 3, 0, 5, 1, 6, 2, 4};
        for (int c : order) {
            acts(m, 2, a(SET, 1, 30 + c), a(PUT, c, 1));
        }
        acts(m, 2, a(PUT, 0, 1), a(END));
        turns(m, 2, 18);
        due("nothing yet", m.writes(), 0);
        for (int c = 0; c < 8; c++) {
            due("nothing yet", m.cell(c), 0);
        }
        due("END", m.turn(2), ENDED);
        due("eight writes by one TURN", m.writes(), 8);
        for (int c = 0; c < 8; c++) {
            int number = c == 0 ? 34 : 30 + c;
            due("CELL", m.cell(c), number);
            due("by CELLS, 7 the latest", m.write(7 - c, 1), c);
            due("the last number", m.write(7 - c, 2), number);
            due("THREAD", m.write(7 - c, 0), 2);
        }
        MutableCells same = with(a(BEGIN), a(PUT, 0, 1), a(PUT, 7, 1), a(END));
        due("PUT of what they hold", run(same), ENDED);
        due("writes as well", same.writes(), 2);
    }

    private static void failureOfTryAhead() {
        part = "if that TRY was opened ahead of the open ATOM, the ATOM is over, and nothing of it counts";
        for (int ahead = 1; ahead <= 4; ahead++) {
            MutableCells m = new MutableCells();
            for (int i = 0; i < ahead; i++) {
                acts(m, 0, a(TRY, ahead + 5));
            }
            acts(m, 0, a(BEGIN), a(SET, 1, 6), a(PUT, 2, 1), a(GET, 3, 4), a(THROW, 1), a(GET, 2, 2), a(BEGIN), a(END), a(DONE));
            turns(m, 0, ahead + 4);
            due("open", m.told(0, ATOM), 1);
            due("THROW", m.turn(0), GOES);
            due("over", m.told(0, ATOM), 0);
            due("TRYS", m.told(0, TRYS), ahead - 1);
            due("r(0)", m.register(0, 0), 16);
            due("PLACE", m.told(0, PLACE), ahead + 5);
            due("nothing counts", m.cell(2), 0);
            m.put(4, 1);
            turns(m, 0, 1);
            due("nor is read", m.register(0, 2), 0);
            turns(m, 0, 2);
            due("the next ATOM knows nothing of it", m.told(0, ANEWS), 0);
            due("nor counts it", m.writes(), 0);
            due("TRYS opened ahead stay", m.told(0, TRYS), ahead - 1);
        }
    }

    private static void failureOfTryInside() {
        part = "a TRY that was opened in the ATOM: it stays open, and what was PUT counts at END";
        for (int ahead = 0; ahead < 4; ahead++) {
            MutableCells m = new MutableCells();
            for (int i = 0; i < ahead; i++) {
                acts(m, 0, a(TRY, 24));
            }
            acts(m, 0, a(BEGIN), a(SET, 1, 6), a(PUT, 2, 1), a(GET, 3, 4), a(TRY, ahead + 6), a(THROW, 1), a(GET, 2, 2), a(END),
                a(SET, 3, 1));
            turns(m, 0, ahead + 6);
            due("open", m.told(0, ATOM), 1);
            due("TRYS", m.told(0, TRYS), ahead);
            due("r(0)", m.register(0, 0), 16);
            turns(m, 0, 1);
            due("what was PUT is read", m.register(0, 2), 6);
            due("nothing counts yet", m.cell(2), 0);
            m.put(4, 1);
            turns(m, 0, 1);
            due("what was read tells", m.told(0, ANEWS), 1);
            turns(m, 0, 7);
            due("END", m.told(0, PLACE), ahead + 8);
            due("counts", m.cell(2), 6);
        }
    }

    private static void failureWithoutTry() {
        part = "Without one the THREAD has FAILED (an open ATOM likewise)";
        MutableCells m = with(a(BEGIN), a(SET, 1, 6), a(PUT, 2, 1), a(THROW, 1), a(END));
        fails(m, 16, 3);
        due("the ATOM is over", m.told(0, ATOM), 0);
        due("nothing counts", m.cell(2), 0);
        due("no write", m.writes(), 0);
        due("REGISTERS stay", m.register(0, 1), 6);
        due("no TURN more", m.turn(0), STATE);
        due("none ANEW", m.told(0, ANEWS), 0);
    }
}
