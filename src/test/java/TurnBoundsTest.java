/** The boundary cases of TURNS, of PLAYING, of the LOG, of the 5000th FAILURE, of again() and clear(). */
public final class TurnBoundsTest extends Words {
    public static void main(String[] args) {
        oneActByATurn();
        turnTellsWhatItIsThen();
        seeds();
        threadsThatGo();
        playEndsWhenNoneGoes();
        playedLikeTurned();
        latest30AreKept();
        thirtyAmidOneTurn();
        writesAsTheyCount();
        the5000thFailure();
        the5000thAmidPlaying();
        the5000thThatFails();
        takeNoneBack();
        again();
        clear();
        check.finish();
    }

    private static void oneActByATurn() {
        part = "A THREAD that GOES does one ACT by a TURN";
        MutableCells m = with(a(SET, 1, 1), a(SET, 2, 2));
        acts(m, 1, a(SET, 1, 3));
        due("the first", m.turn(0), GOES);
        due("one", m.register(0, 1), 1);
        due("not two", m.register(0, 2), 0);
        due("not another's", m.register(1, 1), 0);
        due("TURNS", m.told(0, TURNS), 1);
        due("another's", m.told(1, TURNS), 0);
        due("another", m.turn(1), ENDED);
        due("the second", m.turn(0), ENDED);
        due("TURNS of all", m.again(), 3);
    }

    private static void turnTellsWhatItIsThen() {
        part = "turn: what it is then; STATE: it does not GO";
        for (int t = 0; t < 3; t++) {
            MutableCells m = new MutableCells();
            due("no ACTS", m.turn(t), STATE);
            acts(m, t, a(SET, 0, 1), a(JUMP0, 1, 24));
            due("GOES", m.turn(t), GOES);
            due("ENDED", m.turn(t), ENDED);
            due("ENDED already", m.turn(t), STATE);
            due("none that is refused is a TURN", m.told(t, TURNS), 2);
            m.clear();
            acts(m, t, a(TRY, 1), a(END));
            due("GOES", m.turn(t), GOES);
            due("a FAILURE that is caught", m.turn(t), GOES);
            due("FAILED", m.turn(t), FAILED);
            due("FAILED already", m.turn(t), STATE);
            due("none that is refused is a TURN", m.told(t, TURNS), 3);
            due("of all", m.again(), 3);
        }
    }

    private static int next(int s) {
        return (int) (s * 1103515245L + 12345L);
    }

    private static int drawn(int s, int m) {
        return (int) (((s & 0xFFFFFFFFL) >> 16) % m);
    }

    /** ACTS that GO on for ever, for each THREAD whose bit is set. */
    private static MutableCells goingOn(int threads) {
        MutableCells m = new MutableCells();
        for (int t = 0; t < 3; t++) {
            if ((threads >> t & 1) == 1) {
                acts(m, t, a(JUMP, 0));
            }
        }
        return m;
    }

    private static void seeds() {
        part = "s becomes s * 1103515245 + 12345 (wrapping); s shifted right by 16, without sign";
        for (int s : new int[] {0, 1, -1, 2, 65535, 65536, -65536, MAX, MIN, MAX - 1, MIN + 1, 1103515245, 1234567890, -987654321}) {
            for (int threads = 1; threads < 8; threads++) {
                int going = Integer.bitCount(threads);
                MutableCells m = goingOn(threads);
                int[] want = new int[3];
                int seed = s;
                for (int i = 0; i < 5; i++) {
                    seed = next(seed);
                    want[drawn(seed, going)]++;
                    due("one TURN", m.play(i == 0 ? s : last(s, i), 1), 1);
                    compareTurns(m, threads, want);
                }
                m.again();
                due("five at once", m.play(s, 5), 5);
                compareTurns(m, threads, want);
            }
        }
    }

    /** The seed behind so many TURNS. */
    private static int last(int s, int turns) {
        int seed = s;
        for (int i = 0; i < turns; i++) {
            seed = next(seed);
        }
        return seed;
    }

    private static void compareTurns(MutableCells m, int threads, int[] want) {
        int at = 0;
        for (int t = 0; t < 3; t++) {
            boolean goes = (threads >> t & 1) == 1;
            due("TURNS of " + t + " of THREADS " + threads, m.told(t, TURNS), goes ? want[at] : 0);
            at += goes ? 1 : 0;
        }
    }

    private static void threadsThatGo() {
        part = "with m THREADS that GO it is the one, by numbers, behind so many";
        int[] lengths = {5, 2, 9};
        for (int s = -20; s < 20; s++) {
            MutableCells m = new MutableCells();
            for (int t = 0; t < 3; t++) {
                for (int i = 0; i < lengths[t]; i++) {
                    acts(m, t, t == 1 && i == 1 ? a(THROW, 1) : a(SET, 1, i));
                }
            }
            int[] left = lengths.clone();
            int seed = s * 54321;
            int done = 0;
            while (left[0] + left[1] + left[2] > 0) {
                int going = (left[0] > 0 ? 1 : 0) + (left[1] > 0 ? 1 : 0) + (left[2] > 0 ? 1 : 0);
                due("a TURN", m.play(seed, 1), 1);
                seed = next(seed);
                int ahead = drawn(seed, going);
                int t = 0;
                while (left[t] == 0 || ahead-- > 0) {
                    t++;
                }
                left[t]--;
                done++;
                due("of THREAD " + t, m.told(t, TURNS), lengths[t] - left[t]);
            }
            due("until none GOES", m.play(seed, 1), 0);
            due("TURNS", m.again(), done);
            due("at once", m.play(s * 54321, 100), done);
            for (int t = 0; t < 3; t++) {
                due("TURNS of " + t, m.told(t, TURNS), lengths[t]);
            }
        }
    }

    private static void playEndsWhenNoneGoes() {
        part = "It ends when none GOES; n at most: how many were done";
        for (int n = 1; n <= 8; n++) {
            MutableCells m = with(a(SET, 1, 1), a(SET, 1, 1), a(SET, 1, 1));
            acts(m, 1, a(SET, 1, 1));
            acts(m, 2, a(SET, 1, 1), a(DONE), a(SET, 1, 1));
            due("of six", m.play(n * 77777, n), Math.min(n, 6));
            due("the rest", m.play(n, 100), Math.max(6 - n, 0));
            due("nothing more", m.play(n, 100), 0);
            due("ENDED", m.told(0, IS), ENDED);
            due("ENDED", m.told(1, IS), ENDED);
            due("FAILED", m.told(2, IS), FAILED);
        }
        due("without ACTS", new MutableCells().play(1, 1), 0);
        MutableCells hundred = new MutableCells();
        for (int i = 0; i < 24; i++) {
            for (int t = 0; t < 3; t++) {
                acts(hundred, t, a(SET, 1, i));
            }
        }
        due("all of 72", hundred.play(9, 100), 72);
    }

    private static void playedLikeTurned() {
        part = "a TURN that is PLAYED is as one of turn()";
        MutableCells played = new MutableCells();
        MutableCells turned = new MutableCells();
        for (MutableCells m : new MutableCells[] {played, turned}) {
            acts(m, 1, a(LAZY, 3, 4), a(TRY, 5), a(GET, 2, 3), a(BEGIN), a(THROW, 2), a(PUT, 1, 2), a(END));
        }
        for (int i = 0; i < 7; i++) {
            int is = turned.turn(1);
            due("play", played.play(i, 1), 1);
            due("what it is", played.told(1, IS), is);
            for (int what = 0; what < 7; what++) {
                due("told " + what, played.told(1, what), turned.told(1, what));
            }
            due("writes", played.writes(), turned.writes());
        }
    }

    /** THREAD 1 writes 1, 2, 3 .. to CELL 3, one by two TURNS; behind the first TURN. */
    private static MutableCells writing() {
        MutableCells m = new MutableCells();
        acts(m, 1, a(SET, 1, 1), a(ADD, 2, 2, 1), a(PUT, 3, 2), a(JUMP, 1));
        turns(m, 1, 1);
        return m;
    }

    private static void latest30AreKept() {
        part = "the latest 30 are kept; NONE: there is none such, or it is not kept";
        for (int count : new int[] {0, 1, 2, 29, 30, 31, 32, 59, 60, 61, 62, 90, 100}) {
            MutableCells m = writing();
            for (int left = 3 * count; left > 0; left -= 100) {
                due("played", m.play(left, Math.min(left, 100)), Math.min(left, 100));
            }
            due("writes", m.writes(), count);
            for (int i = -1; i < 33; i++) {
                boolean kept = i >= 0 && i < 30 && i < count;
                due("THREAD of " + i + " of " + count, m.write(i, 0), kept ? 1 : NONE);
                due("CELL of " + i + " of " + count, m.write(i, 1), kept ? 3 : NONE);
                due("number of " + i + " of " + count, m.write(i, 2), kept ? count - i : NONE);
            }
            for (int i : new int[] {count - 1, count, count + 1, MIN, MAX}) {
                due("write " + i, m.write(i, 2), i >= 0 && i < 30 && i < count ? count - i : NONE);
            }
        }
    }

    private static void thirtyAmidOneTurn() {
        part = "the latest 30 are kept, where one TURN writes many";
        for (int ahead = 21; ahead <= 31; ahead++) {
            MutableCells m = writing();
            acts(m, 0, a(BEGIN), a(PUT, 7, 0), a(PUT, 6, 0), a(PUT, 5, 0), a(PUT, 4, 0), a(PUT, 3, 0), a(PUT, 2, 0), a(PUT, 1, 0),
                a(PUT, 0, 0), a(END));
            turns(m, 1, 3 * ahead);
            turns(m, 0, 9);
            due("ahead of END", m.writes(), ahead);
            due("END", m.turn(0), ENDED);
            due("writes", m.writes(), ahead + 8);
            for (int i = 0; i < 31; i++) {
                boolean kept = i < 30 && i < ahead + 8;
                due("CELL of " + i, m.write(i, 1), !kept ? NONE : i < 8 ? 7 - i : 3);
                due("THREAD of " + i, m.write(i, 0), !kept ? NONE : i < 8 ? 0 : 1);
                due("number of " + i, m.write(i, 2), !kept ? NONE : i < 8 ? 0 : ahead + 8 - i);
            }
        }
        for (int ahead = 22; ahead <= 31; ahead++) {
            MutableCells m = writing();
            for (int c = 0; c < 7; c++) {
                acts(m, 2, a(LAZY, c, c + 1));
            }
            acts(m, 2, a(GET, 0, 0));
            turns(m, 1, 3 * ahead);
            turns(m, 2, 7);
            due("ahead of GET", m.writes(), ahead);
            due("GET", m.turn(2), ENDED);
            due("writes", m.writes(), ahead + 7);
            for (int i = 0; i < 31; i++) {
                boolean kept = i < 30 && i < ahead + 7;
                due("CELL of " + i, m.write(i, 1), !kept ? NONE : i < 7 ? i : 3);
                due("number of " + i, m.write(i, 2), !kept ? NONE : i < 7 ? (1 << 7 - i) - 1 : ahead + 7 - i);
            }
        }
    }

    private static void writesAsTheyCount() {
        part = "writes to CELLS as they count (by PUT, SWAP that does, reading a LAZY one, END)";
        MutableCells m = with(a(PUT, 1, 1), a(SWAP, 2, 1, 1), a(SET, 1, 9), a(SWAP, 2, 1, 1), a(LAZY, 3, 2), a(GET, 0, 3),
            a(GET, 0, 3), a(BEGIN), a(PUT, 4, 1), a(PUT, 5, 1), a(END), a(LAZY, 1, 3), a(SWAP, 1, 1, 1), a(MAKE, 0, 2),
            a(STORE, 0, 2, 2), a(GET, 3, 0));
        int[] writes = {1, 2, 2, 2, 2, 3, 3, 3, 3, 3, 5, 5, 6, 6, 6, 6};
        for (int i = 0; i < writes.length; i++) {
            due("turn " + i, m.turn(0), i == 14 ? FAILED : i == 15 ? STATE : GOES);
            due("writes behind ACT " + i, m.writes(), writes[i]);
        }
        m.put(0, 5);
        due("not by hand", m.writes(), 6);
        int[] cells = {1, 5, 4, 3, 2, 1};
        for (int i = 0; i < cells.length; i++) {
            due("CELL", m.write(i, 1), cells[i]);
        }
    }

    /** So many FAILURES, by TURNS of THREAD 0; a hundred TURNS come to fifty. A multiple of 50. */
    private static MutableCells failed(int failures) {
        MutableCells m = with(a(TRY, 0), a(THROW, 1));
        for (int i = 0; i < failures; i += 50) {
            due("played", m.play(i, 100), 100);
        }
        return m;
    }

    private static void the5000thFailure() {
        part = "Behind the 5000th FAILURE of all no TURN is done any more";
        MutableCells m = failed(4950);
        due("no TRY is open", m.told(0, TRYS), 0);
        due("98 TURNS", m.play(1, 98), 98);
        due("4999: it GOES", m.told(0, IS), GOES);
        due("a TURN behind the 4999th", m.turn(0), GOES);
        due("the TRY", m.told(0, TRYS), 1);
        due("the TURN of the 5000th", m.turn(0), GOES);
        due("it was caught", m.told(0, TRYS), 0);
        due("r(0)", m.register(0, 0), 10);
        due("PLACE", m.told(0, PLACE), 0);
        due("TURNS", m.told(0, TURNS), 10000);
        for (int i = 0; i < 3; i++) {
            due("turn", m.turn(0), STATE);
            due("play", m.play(i, 100), 0);
        }
        due("OUTSIDE is ahead: turn", m.turn(-1), OUTSIDE);
        due("OUTSIDE is ahead: play", m.play(1, 0), OUTSIDE);
        due("OUTSIDE is ahead: play", m.play(1, 101), OUTSIDE);
        due("none was done", m.told(0, TURNS), 10000);
        due("it GOES all the same", m.told(0, IS), GOES);
        due("others take ACTS", m.act(1, SET, 0, 1, 0), 1);
        due("but do none", m.turn(1), STATE);
        due("its own it does not take", m.act(0, SET, 0, 1, 0), STATE);
        due("put", m.put(0, 4), 0);
        due("cell", m.cell(0), 4);
    }

    private static void the5000thAmidPlaying() {
        part = "Behind the 5000th FAILURE of all no TURN is PLAYED any more";
        for (int ahead = 95; ahead <= 100; ahead++) {
            MutableCells m = failed(4950);
            due("ahead", m.play(1, ahead), ahead);
            due("to the 5000th", m.play(1, 100), 100 - ahead);
            due("TURNS", m.told(0, TURNS), 10000);
            due("none more", m.play(1, 100), 0);
        }
        MutableCells three = new MutableCells();
        for (int t = 0; t < 3; t++) {
            acts(three, t, a(TRY, 0), a(THROW, 1));
        }
        int done = 0;
        for (int i = 0; i < 110; i++) {
            done += three.play(i * 31337, 100);
        }
        int open = three.told(0, TRYS) + three.told(1, TRYS) + three.told(2, TRYS);
        due("FAILURES of all: the TRYS that were caught", done - open, 10000);
        due("none more", three.play(1, 1), 0);
        for (int t = 0; t < 3; t++) {
            due("each GOES", three.told(t, IS), GOES);
            due("none does a TURN", three.turn(t), STATE);
        }
    }

    private static void the5000thThatFails() {
        part = "a FAILURE without a TRY is one of all";
        MutableCells m = failed(4950);
        due("98 TURNS", m.play(1, 98), 98);
        m.again();
        acts(m, 1, a(DIV, 1, 1, 1));
        acts(m, 2, a(SET, 1, 1), a(SET, 1, 2));
        due("behind the 4999th", m.turn(2), GOES);
        due("the 5000th", m.turn(1), FAILED);
        due("by", m.told(1, FAILURE), 2);
        due("no TURN more", m.turn(2), STATE);
        due("it GOES", m.told(2, IS), GOES);
        due("none", m.turn(0), STATE);
        due("none", m.play(5, 5), 0);
        due("FAILED: STATE as well", m.turn(1), STATE);
        MutableCells behind = failed(4950);
        due("98 TURNS", behind.play(1, 98), 98);
        behind.clear();
        acts(behind, 0, a(BEGIN));
        due("BEGIN", behind.turn(0), GOES);
        due("behind the last ACT: the 5000th", behind.turn(0), FAILED);
        acts(behind, 1, a(SET, 1, 1));
        due("none", behind.turn(1), STATE);
    }

    private static void takeNoneBack() {
        part = "again(), clear() take none back";
        for (int way = 0; way < 3; way++) {
            MutableCells m = failed(2500);
            due("TURNS", way == 1 ? m.clear() : m.again(), 5000);
            if (way == 1) {
                acts(m, 0, a(TRY, 0), a(THROW, 1));
            }
            for (int i = 0; i < 49; i++) {
                due("played", m.play(i, 100), 100);
            }
            due("TURNS", way == 2 ? m.clear() : m.again(), 4900);
            if (way == 2) {
                acts(m, 0, a(TRY, 0), a(THROW, 1));
            }
            due("to the 5000th", m.play(1, 99), 99);
            due("the 5000th", m.play(1, 99), 1);
            due("no more", m.turn(0), STATE);
            due("TURNS", m.again(), 100);
            due("again()", m.told(0, IS), GOES);
            due("no more", m.turn(0), STATE);
            due("TURNS", m.clear(), 0);
            due("clear()", m.told(0, IS), ENDED);
            due("ACTS are taken", m.act(0, SET, 1, 1, 0), 1);
            due("no more", m.turn(0), STATE);
            due("no more", m.play(1, 1), 0);
        }
        due("another object has its own", with(a(SET, 1, 1)).turn(0), ENDED);
    }

    /** Changes all that a THREAD and a hand can change; 60 TURNS at most. */
    private static MutableCells used() {
        MutableCells m = with(a(SET, 0, 8), a(MAKE, 0, 0), a(MAKE, 3, 0), a(SET, 1, 7), a(STORE, 3, 1, 1), a(FREEZE, 3), a(PUT, 0, 0),
            a(LAZY, 7, 0), a(TRY, 24), a(TRY, 24), a(TRY, 24), a(BEGIN), a(TRY, 24), a(GET, 2, 1), a(SET, 3, 5), a(PUT, 2, 3));
        acts(m, 1, a(BEGIN), a(GET, 0, 5), a(END), a(THROW, 1));
        acts(m, 2, a(SET, 3, 3), a(PUT, 6, 3));
        turns(m, 0, 16);
        turns(m, 1, 2);
        m.put(5, 4);
        turns(m, 1, 4);
        turns(m, 2, 2);
        m.put(4, 3);
        return m;
    }

    private static void asAtFirst(MutableCells m) {
        for (int c = 0; c < 8; c++) {
            due("cell " + c, m.cell(c), 0);
            due("lazy " + c, m.lazy(c), 0);
        }
        for (int r = 0; r < 4; r++) {
            due("size " + r, m.size(r), NONE);
            due("frozen " + r, m.frozen(r), 0);
            due("item " + r, m.item(r, 7), 0);
        }
        for (int t = 0; t < 3; t++) {
            for (int what = 1; what < 7; what++) {
                due("told " + t + ", " + what, m.told(t, what), 0);
            }
            for (int i = 0; i < 4; i++) {
                due("register " + t + ", " + i, m.register(t, i), 0);
            }
        }
        due("writes", m.writes(), 0);
        for (int i = 0; i < 4; i++) {
            due("write " + i, m.write(i, 2), NONE);
        }
    }

    private static void again() {
        part = "All is as at first, but ACTS: how many TURNS were done";
        due("none", new MutableCells().again(), 0);
        MutableCells m = used();
        due("ATOM", m.told(0, ATOM), 1);
        due("four TRYS", m.told(0, TRYS), 4);
        due("FAILED", m.told(1, IS), FAILED);
        due("ANEW", m.told(1, ANEWS), 1);
        due("TURNS", m.again(), 24);
        asAtFirst(m);
        due("none since", m.again(), 0);
        for (int t = 0; t < 3; t++) {
            due("GOES", m.told(t, IS), GOES);
        }
        due("no ATOM of before", turns(m, 1, 3), GOES);
        due("none ANEW", m.told(1, ANEWS), 0);
        due("TURNS", m.told(1, TURNS), 3);
        due("ACTS are kept", m.act(0, SET, 0, 0, 0), 17);
        due("ACTS are kept", m.act(2, SET, 0, 0, 0), 3);
        due("the same once more", turns(m, 0, 16), GOES);
        due("TRYS", m.told(0, TRYS), 4);
        due("ROW", m.size(3), 8);
        due("its ITEM", m.item(3, 7), 7);
        due("TURNS", m.again(), 19);
        due("a STATE that is gone", m.act(0, SET, 0, 0, 0), 18);
    }

    private static void clear() {
        part = "All is as at first: likewise";
        due("none", new MutableCells().clear(), 0);
        MutableCells m = used();
        due("TURNS", m.clear(), 24);
        asAtFirst(m);
        due("none since", m.clear(), 0);
        for (int t = 0; t < 3; t++) {
            due("ENDED", m.told(t, IS), ENDED);
            due("turn", m.turn(t), STATE);
            due("ACTS are not kept", m.act(t, SET, 3, 6, 0), 1);
        }
        due("play", m.play(1, 100), 3);
        due("register", m.register(2, 3), 6);
        due("TURNS", m.again(), 3);
        due("TURNS, behind again()", m.clear(), 0);
    }
}
