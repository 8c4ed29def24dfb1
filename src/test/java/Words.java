/** The document's numbers by their names, and what tests share; a test extends it. */
abstract class Words {
    static final int NONE = -1, OUTSIDE = -2, STATE = -3, ROOM = -4;
    static final int GOES = 0, ENDED = 1, FAILED = 2;
    static final int SET = 0, GET = 1, PUT = 2, ADD = 3, SUB = 4, MUL = 5, DIV = 6, LOAD = 7, STORE = 8, SWAP = 9;
    static final int JUMP = 10, JUMP0 = 11, BEGIN = 12, END = 13, TRY = 14, DONE = 15, THROW = 16, MAKE = 17, FREEZE = 18;
    static final int LAZY = 19;
    /** What told() is asked. */
    static final int IS = 0, PLACE = 1, FAILURE = 2, TRYS = 3, ATOM = 4, TURNS = 5, ANEWS = 6;
    static final int MIN = Integer.MIN_VALUE, MAX = Integer.MAX_VALUE;

    static final Check check = new Check();
    /** What is being tested: a promise, or a sentence of the document. */
    static String part = "";

    static void due(String what, long got, long want) {
        check.due(part + ": " + what, got, want);
    }

    static int[] a(int... numbers) {
        return numbers;
    }

    static void acts(MutableCells m, int thread, int[]... acts) {
        for (int[] a : acts) {
            int got = m.act(thread, a[0], a.length > 1 ? a[1] : 0, a.length > 2 ? a[2] : 0, a.length > 3 ? a[3] : 0);
            check.holds(part + ": an ACT of KIND " + a[0] + " is taken", got > 0);
        }
    }

    /** An object whose THREAD 0 has these ACTS. */
    static MutableCells with(int[]... acts) {
        MutableCells m = new MutableCells();
        acts(m, 0, acts);
        return m;
    }

    /** So many TURNS of a THREAD; what it is behind the last. */
    static int turns(MutableCells m, int thread, int n) {
        int is = NONE;
        for (int i = 0; i < n; i++) {
            is = m.turn(thread);
        }
        return is;
    }

    /** TURNS of THREAD 0 until it GOES no more, 200 at most. */
    static int run(MutableCells m) {
        int is = GOES;
        for (int i = 0; i < 200 && is == GOES; i++) {
            is = m.turn(0);
        }
        return is;
    }

    /** THREAD 0 comes to this FAILURE at this PLACE, without a TRY. */
    static void fails(MutableCells m, int failure, int place) {
        due("FAILED", run(m), FAILED);
        due("the FAILURE", m.told(0, FAILURE), failure);
        due("the PLACE of the FAILURE", m.told(0, PLACE), place);
    }
}
