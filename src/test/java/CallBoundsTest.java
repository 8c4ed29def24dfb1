import java.util.function.IntUnaryOperator;

/** The bounds of what calls name: the last number inside and the first outside, on both sides. A test for each sentence. */
public final class CallBoundsTest extends Words {
    private static final int[] NOT_0_TO_2 = {-1, 3, MIN, MAX}, NOT_0_TO_3 = {-1, 4, MIN, MAX};
    private static final int[] NOT_0_TO_7 = {-1, 8, MIN, MAX};

    public static void main(String[] args) {
        cells0To7();
        cellsHoldNumbers();
        rows0To3();
        rowsAreNothingOrHaveItems();
        itemsThereAreNoneOf();
        threads0To2();
        registers0To3();
        registersMayBeThatNumber();
        placesInActs();
        kinds0To19();
        numbersThatActsName();
        acts24AtMost();
        stateOfAct();
        toldWhat0To6();
        play1To100();
        writeWhat0To2();
        writesThatAreNot();
        check.finish();
    }

    private static void outside(String what, IntUnaryOperator call, int... numbers) {
        for (int number : numbers) {
            due(what + " of " + number, call.applyAsInt(number), OUTSIDE);
        }
    }

    private static void cells0To7() {
        part = "CELLS 0 to 7";
        MutableCells m = new MutableCells();
        for (int c = 0; c < 8; c++) {
            due("put " + c, m.put(c, 10 + c), 0);
        }
        outside("put", c -> m.put(c, 99), NOT_0_TO_7);
        outside("cell", m::cell, NOT_0_TO_7);
        outside("lazy", m::lazy, NOT_0_TO_7);
        for (int c = 0; c < 8; c++) {
            due("cell " + c, m.cell(c), 10 + c);
            due("lazy " + c, m.lazy(c), 0);
            due("put once more " + c, m.put(c, 0), 10 + c);
        }
        for (int c : new int[] {0, 7}) {
            MutableCells lazy = with(a(LAZY, c, 7 - c), a(LAZY, 7 - c, c));
            turns(lazy, 0, 1);
            due("LAZY " + c, lazy.lazy(c), 1);
            due("with the other end", lazy.cell(c), 7 - c);
            due("the other end is not", lazy.lazy(7 - c), 0);
            due("put on a LAZY one", lazy.put(c, -5), 7 - c);
            due("LAZY no more", lazy.lazy(c), 0);
            due("cell", lazy.cell(c), -5);
        }
    }

    private static void cellsHoldNumbers() {
        part = "a CELL holds a number, by hand; numbers are ints";
        MutableCells m = new MutableCells();
        int before = 0;
        for (int v : new int[] {MIN, MAX, NONE, OUTSIDE, STATE, ROOM, 0}) {
            due("put " + v, m.put(4, v), before);
            due("cell", m.cell(4), v);
            before = v;
        }
        due("no THREAD: TURNS", m.again(), 0);
        m.put(4, 1);
        due("not in the LOG", m.writes(), 0);
        due("not in the LOG", m.write(0, 0), NONE);
    }

    private static void rows0To3() {
        part = "ROWS 0 to 3";
        MutableCells m = new MutableCells();
        for (int r = 0; r < 4; r++) {
            acts(m, 0, a(SET, 0, r + 1), a(MAKE, r, 0), a(SET, 1, r), a(SET, 2, 70 + r), a(STORE, r, 1, 2));
        }
        acts(m, 0, a(FREEZE, 0), a(FREEZE, 3));
        due("made", run(m), ENDED);
        for (int r = 0; r < 4; r++) {
            due("size " + r, m.size(r), r + 1);
            due("last ITEM " + r, m.item(r, r), 70 + r);
            due("ITEM behind it " + r, m.item(r, r + 1), 0);
            due("frozen " + r, m.frozen(r), r == 0 || r == 3 ? 1 : 0);
        }
        outside("size", m::size, NOT_0_TO_3);
        outside("item", r -> m.item(r, 0), NOT_0_TO_3);
        outside("item, with an ITEM that is not", r -> m.item(r, -1), NOT_0_TO_3);
        outside("frozen", m::frozen, NOT_0_TO_3);
    }

    private static void rowsAreNothingOrHaveItems() {
        part = "ROWS are NOTHING at first, or have 0 to 8 ITEMS";
        for (int r = 0; r < 4; r++) {
            MutableCells m = new MutableCells();
            due("NOTHING", m.size(r), NONE);
            due("NOTHING is not FROZEN", m.frozen(r), 0);
            for (int size : new int[] {0, 1, 7, 8}) {
                m.clear();
                acts(m, 0, a(SET, 0, size), a(MAKE, r, 0), a(FREEZE, r));
                turns(m, 0, 2);
                due("size", m.size(r), size);
                due("not FROZEN", m.frozen(r), 0);
                due("FREEZE", m.turn(0), ENDED);
                due("FROZEN", m.frozen(r), 1);
                due("size", m.size(r), size);
            }
            m.again();
            due("NOTHING again", m.size(r), NONE);
            due("not FROZEN", m.frozen(r), 0);
        }
    }

    private static void itemsThereAreNoneOf() {
        part = "ITEM i of a ROW; 0 if there is none such";
        MutableCells m = with(a(SET, 0, 3), a(MAKE, 1, 0), a(SET, 1, -9), a(SET, 2, 2), a(STORE, 1, 2, 1), a(SET, 2, 0),
            a(STORE, 1, 2, 1));
        due("made", run(m), ENDED);
        due("the first", m.item(1, 0), -9);
        due("the last", m.item(1, 2), -9);
        for (int i : new int[] {-1, 3, 7, 8, MIN, MAX}) {
            due("ITEM " + i, m.item(1, i), 0);
            due("ITEM of NOTHING " + i, m.item(3, i), 0);
        }
        due("ITEM 0 of NOTHING", m.item(0, 0), 0);
        MutableCells shorter = with(a(SET, 0, 8), a(MAKE, 2, 0), a(SET, 1, 7), a(STORE, 2, 1, 1), a(MAKE, 2, 1), a(SET, 0, 0),
            a(MAKE, 2, 0));
        turns(shorter, 0, 4);
        due("ITEM 7 of eight", shorter.item(2, 7), 7);
        due("ITEM 8 of eight", shorter.item(2, 8), 0);
        turns(shorter, 0, 1);
        due("seven", shorter.size(2), 7);
        due("ITEM 7 of seven", shorter.item(2, 7), 0);
        turns(shorter, 0, 2);
        due("none", shorter.size(2), 0);
        due("ITEM 0 of none", shorter.item(2, 0), 0);
    }

    private static void threads0To2() {
        part = "THREADS 0 to 2";
        MutableCells m = new MutableCells();
        for (int t = 0; t < 3; t++) {
            due("act " + t, m.act(t, SET, 0, 40 + t, 0), 1);
        }
        outside("act", t -> m.act(t, SET, 0, 99, 0), NOT_0_TO_2);
        outside("turn", m::turn, NOT_0_TO_2);
        outside("told", t -> m.told(t, IS), NOT_0_TO_2);
        outside("register", t -> m.register(t, 0), NOT_0_TO_2);
        for (int t = 0; t < 3; t++) {
            due("none but its own TURN " + t, m.told(t, TURNS), 0);
            due("turn " + t, m.turn(t), ENDED);
            due("told " + t, m.told(t, TURNS), 1);
            due("register " + t, m.register(t, 0), 40 + t);
        }
    }

    private static void registers0To3() {
        part = "REGISTERS 0 to 3 (0 at first)";
        for (int t = 0; t < 3; t++) {
            MutableCells m = new MutableCells();
            for (int i = 0; i < 4; i++) {
                due("at first", m.register(t, i), 0);
                acts(m, t, a(SET, i, 20 + i));
            }
            int thread = t;
            outside("act", i -> m.act(thread, SET, i, 1, 0), NOT_0_TO_3);
            due("four SETS", turns(m, t, 4), ENDED);
            for (int i = 0; i < 4; i++) {
                due("register", m.register(t, i), 20 + i);
                due("another THREAD's", m.register((t + 1) % 3, i), 0);
            }
            outside("register", i -> m.register(thread, i), NOT_0_TO_3);
        }
    }

    private static void registersMayBeThatNumber() {
        part = "OUTSIDE: also where it may be that number";
        MutableCells m = with(a(SET, 1, OUTSIDE), a(PUT, 1, 1), a(SET, 0, 1), a(MAKE, 1, 0), a(SET, 2, 0), a(STORE, 1, 2, 1));
        due("run", run(m), ENDED);
        due("REGISTER", m.register(0, 1), -2);
        due("CELL", m.cell(1), -2);
        due("ITEM", m.item(1, 0), -2);
        due("write", m.write(0, 2), -2);
        due("put", m.put(1, 0), -2);
    }

    private static void placesInActs() {
        part = "PLACE (0 to 24)";
        for (int place : new int[] {0, 1, 23, 24}) {
            due("JUMP " + place, new MutableCells().act(0, JUMP, place, 0, 0), 1);
            due("JUMP0 " + place, new MutableCells().act(0, JUMP0, 3, place, 0), 1);
            due("TRY " + place, new MutableCells().act(0, TRY, place, 0, 0), 1);
        }
        MutableCells m = new MutableCells();
        for (int place : new int[] {-1, 25, MIN, MAX}) {
            due("JUMP " + place, m.act(0, JUMP, place, 0, 0), OUTSIDE);
            due("JUMP0 " + place, m.act(0, JUMP0, 3, place, 0), OUTSIDE);
            due("TRY " + place, m.act(0, TRY, place, 0, 0), OUTSIDE);
        }
        due("none came", m.told(0, IS), ENDED);
        due("the first", m.act(0, JUMP, 24, 0, 0), 1);
    }

    private static void kinds0To19() {
        part = "KINDS 0 to 19";
        for (int kind = 0; kind < 20; kind++) {
            due("KIND " + kind, new MutableCells().act(2, kind, 0, 0, 0), 1);
        }
        MutableCells m = new MutableCells();
        outside("act", kind -> m.act(2, kind, 0, 0, 0), -1, 20, 21, 32, MIN, MAX);
        due("none came", m.told(2, IS), ENDED);
        due("the first", m.act(2, SET, 0, 0, 0), 1);
    }

    /** Which of x, y, z name something by each KIND: R a REGISTER, C a CELL, W a ROW, P a PLACE, - is not looked at. */
    private static final String[] NAMED = {"R--", "RC-", "CR-", "RRR", "RRR", "RRR", "RRR", "RWR", "WRR", "CRR", "P--", "RP-",
        "---", "---", "P--", "---", "R--", "WR-", "W--", "CC-"};

    private static int lastOf(char sign) {
        switch (sign) {
            case 'C': return 7;
            case 'P': return 24;
            default: return 3;
        }
    }

    private static void numbersThatActsName() {
        part = "x, y, z where it names a REGISTER, CELL, ROW, PLACE by it (others are not looked at)";
        for (int kind = 0; kind < 20; kind++) {
            MutableCells m = new MutableCells();
            int taken = 0;
            for (int at = 0; at < 3; at++) {
                char sign = NAMED[kind].charAt(at);
                int last = lastOf(sign);
                for (int number : new int[] {0, last, -1, last + 1, MIN, MAX}) {
                    boolean inside = sign == '-' || number >= 0 && number <= last;
                    taken += inside ? 1 : 0;
                    int[] xyz = new int[3];
                    xyz[at] = number;
                    due("KIND " + kind + ", " + "xyz".charAt(at) + " = " + number, m.act(1, kind, xyz[0], xyz[1], xyz[2]),
                        inside ? taken : OUTSIDE);
                }
            }
        }
    }

    private static void acts24AtMost() {
        part = "24 ACTS at most; ROOM";
        for (int t = 0; t < 3; t++) {
            MutableCells m = new MutableCells();
            for (int i = 1; i <= 24; i++) {
                due("ACT " + i, m.act(t, ADD, 1, 1, 2), i);
            }
            due("the 25th", m.act(t, SET, 1, 99, 0), ROOM);
            due("and the next", m.act(t, SET, 1, 99, 0), ROOM);
            due("OUTSIDE is ahead of ROOM", m.act(t, SET, 4, 99, 0), OUTSIDE);
            due("another THREAD has room", m.act((t + 1) % 3, SET, 1, 9, 0), 1);
            due("all but one", turns(m, t, 23), GOES);
            due("the 24th", m.turn(t), ENDED);
            due("PLACE", m.told(t, PLACE), 24);
            due("no 25th TURN", m.turn(t), STATE);
            due("no ACT came", m.register(t, 1), 0);
            due("STATE is ahead of ROOM", m.act(t, SET, 1, 99, 0), STATE);
            m.again();
            due("again() keeps all", m.act(t, SET, 1, 99, 0), ROOM);
            m.clear();
            due("clear() none", m.act(t, SET, 1, 99, 0), 1);
        }
    }

    private static void stateOfAct() {
        part = "STATE: the THREAD did a TURN since the latest again() or clear()";
        MutableCells m = with(a(SET, 0, 1), a(SET, 0, 2));
        acts(m, 1, a(SET, 0, 1));
        due("ahead of a TURN", m.act(0, SET, 0, 3, 0), 3);
        due("a TURN", m.turn(0), GOES);
        due("behind a TURN", m.act(0, SET, 0, 4, 0), STATE);
        due("OUTSIDE is ahead of STATE", m.act(0, SET, 4, 4, 0), OUTSIDE);
        due("another's TURN is not its own", m.act(1, SET, 0, 4, 0), 2);
        turns(m, 0, 2);
        due("ENDED at the third, no fourth came", m.told(0, IS), ENDED);
        due("ENDED", m.act(0, SET, 0, 4, 0), STATE);
        due("again", m.again(), 3);
        due("behind again()", m.act(0, SET, 0, 4, 0), 4);
        m.turn(0);
        due("behind a TURN", m.act(0, SET, 0, 5, 0), STATE);
        due("clear", m.clear(), 1);
        due("behind clear()", m.act(0, SET, 0, 5, 0), 1);
        MutableCells failed = with(a(DONE));
        failed.turn(0);
        due("FAILED", failed.act(0, SET, 0, 0, 0), STATE);
        MutableCells refused = new MutableCells();
        due("a TURN that is not done", refused.turn(0), STATE);
        due("is none", refused.act(0, SET, 0, 0, 0), 1);
        MutableCells played = with(a(SET, 0, 1));
        played.play(0, 1);
        due("a TURN by play()", played.act(0, SET, 0, 0, 0), STATE);
    }

    private static void toldWhat0To6() {
        part = "told, what = 0 to 6";
        MutableCells m = with(a(TRY, 9), a(BEGIN), a(GET, 1, 2), a(END), a(BEGIN), a(TRY, 9), a(DIV, 0, 0, 3));
        turns(m, 0, 3);
        m.put(2, 1);
        m.turn(0);
        turns(m, 0, 4);
        int[] want = {GOES, 6, 0, 2, 1, 8, 1};
        for (int what = 0; what < 7; what++) {
            due("told " + what, m.told(0, what), want[what]);
        }
        outside("told", what -> m.told(0, what), -1, 7, MIN, MAX);
        outside("told, of another", what -> m.told(2, what), -1, 7);
        MutableCells failed = with(a(THROW, 0));
        failed.turn(0);
        due("FAILED", failed.told(0, IS), FAILED);
        due("by", failed.told(0, FAILURE), 10);
        MutableCells none = new MutableCells();
        for (int what = 1; what < 7; what++) {
            due("at first " + what, none.told(1, what), 0);
        }
        due("ENDED at first", none.told(1, IS), ENDED);
    }

    private static void play1To100() {
        part = "n at most (1 to 100)";
        MutableCells m = with(a(SET, 1, 1), a(ADD, 0, 0, 1), a(JUMP, 1));
        outside("play", n -> m.play(7, n), 0, 101, -1, MIN, MAX);
        due("no TURN yet", m.told(0, TURNS), 0);
        due("1", m.play(7, 1), 1);
        due("TURNS", m.told(0, TURNS), 1);
        due("100", m.play(7, 100), 100);
        due("TURNS", m.told(0, TURNS), 101);
        due("99", m.play(7, 99), 99);
        due("TURNS", m.again(), 200);
        MutableCells none = new MutableCells();
        outside("OUTSIDE where none GOES", n -> none.play(7, n), 0, 101);
        due("none GOES", none.play(7, 1), 0);
        due("none GOES", none.play(7, 100), 0);
    }

    private static void writeWhat0To2() {
        part = "write, what = 0 to 2";
        MutableCells m = new MutableCells();
        outside("write, of none", what -> m.write(0, what), -1, 3, MIN, MAX);
        acts(m, 2, a(SET, 1, -6), a(PUT, 5, 1));
        turns(m, 2, 2);
        due("THREAD", m.write(0, 0), 2);
        due("CELL", m.write(0, 1), 5);
        due("number", m.write(0, 2), -6);
        outside("write", what -> m.write(0, what), -1, 3, MIN, MAX);
        outside("OUTSIDE ahead of NONE", what -> m.write(-1, what), -1, 3);
        outside("OUTSIDE ahead of NONE", what -> m.write(1, what), -1, 3);
        outside("OUTSIDE ahead of NONE", what -> m.write(30, what), -1, 3);
    }

    private static void writesThatAreNot() {
        part = "NONE: there is none such";
        MutableCells m = with(a(PUT, 5, 0), a(PUT, 6, 0));
        for (int what = 0; what < 3; what++) {
            due("an empty LOG", m.write(0, what), NONE);
        }
        turns(m, 0, 1);
        due("write 0", m.write(0, 1), 5);
        turns(m, 0, 1);
        due("write 0 is the latest", m.write(0, 1), 6);
        due("write 1", m.write(1, 1), 5);
        for (int i : new int[] {-1, 2, 29, 30, 31, MIN, MAX}) {
            for (int what = 0; what < 3; what++) {
                due("write " + i, m.write(i, what), NONE);
            }
        }
    }
}
