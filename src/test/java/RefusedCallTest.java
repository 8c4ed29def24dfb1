import java.util.ArrayList;
import java.util.List;
import java.util.function.Consumer;
import java.util.function.ToIntFunction;

/**
 * "Calls answer OUTSIDE, when a number is out of its bounds, ahead of all else; then nothing changes", nor does anything by
 * a call that answers STATE, ROOM or NONE, or that only asks. Two objects are used alike, but one gets refused calls as well:
 * both then tell the same, and answer the same to all that comes behind. No object gets more than 512 calls.
 */
public final class RefusedCallTest extends Words {
    private record Call(String name, ToIntFunction<MutableCells> call, int want) { }

    /** How an object is used ahead of the refused calls; full: a THREAD with 24 ACTS and no TURNS, or NONE. */
    private record Station(String name, int full, Consumer<MutableCells> use) { }

    private static final List<Station> STATIONS = List.of(
        new Station("a new object", NONE, m -> { }),
        new Station("ACTS, no TURNS", NONE, m -> tellActs(m)),
        new Station("24 ACTS", 2, RefusedCallTest::tell24Acts),
        new Station("amid ATOMS", NONE, RefusedCallTest::goIntoAtoms),
        new Station("GOES, FAILED, ENDED", 1, RefusedCallTest::goToEnds),
        new Station("LAZY CELLS, a ring", NONE, RefusedCallTest::makeLazy),
        new Station("ROWS", NONE, RefusedCallTest::makeRows),
        new Station("a LOG that is full", NONE, RefusedCallTest::fillLog),
        new Station("behind again()", NONE, m -> {
            goIntoAtoms(m);
            m.again();
        }),
        new Station("behind clear()", NONE, m -> {
            goToEnds(m);
            m.clear();
        }),
        new Station("ahead of the 5000th FAILURE", NONE, m -> goTo5000(m, 1)),
        new Station("behind the 5000th FAILURE", NONE, m -> goTo5000(m, 0)));

    public static void main(String[] args) {
        for (Station station : STATIONS) {
            outsideOfAct(station);
            outsideOfOthers(station);
            stateAndRoom(station);
            noneAndAsked(station);
        }
        check.finish();
    }

    private static void tellActs(MutableCells m) {
        acts(m, 0, a(SET, 1, 4), a(PUT, 2, 1), a(TRY, 5), a(BEGIN), a(GET, 2, 3), a(PUT, 3, 1), a(END));
        acts(m, 1, a(SET, 0, 2), a(MAKE, 1, 0), a(STORE, 1, 1, 0), a(FREEZE, 1));
    }

    private static void tell24Acts(MutableCells m) {
        tellActs(m);
        for (int i = 0; i < 24; i++) {
            acts(m, 2, a(SET, i % 4, i));
        }
    }

    private static void goIntoAtoms(MutableCells m) {
        acts(m, 0, a(SET, 1, 4), a(TRY, 6), a(BEGIN), a(GET, 2, 3), a(TRY, 8), a(PUT, 3, 1), a(DONE), a(END), a(SET, 3, 3));
        acts(m, 1, a(BEGIN), a(SET, 1, 9), a(SWAP, 4, 2, 1), a(PUT, 5, 1), a(END));
        acts(m, 2, a(BEGIN), a(GET, 1, 6), a(END), a(BEGIN), a(PUT, 7, 1), a(END));
        turns(m, 0, 6);
        turns(m, 1, 4);
        turns(m, 2, 2);
        m.put(6, 1);
        turns(m, 2, 2);
    }

    private static void goToEnds(MutableCells m) {
        acts(m, 0, a(TRY, 3), a(TRY, 3), a(DIV, 1, 1, 1), a(THROW, 0));
        for (int i = 0; i < 24; i++) {
            acts(m, 1, a(JUMP, 24));
        }
        acts(m, 2, a(SET, 0, 7), a(PUT, 0, 0));
        turns(m, 0, 5);
        turns(m, 2, 2);
    }

    private static void makeLazy(MutableCells m) {
        acts(m, 0, a(LAZY, 0, 1), a(LAZY, 1, 0), a(LAZY, 2, 3), a(LAZY, 3, 4), a(LAZY, 7, 7), a(GET, 1, 3), a(GET, 1, 2), a(GET, 1, 0));
        m.put(4, 50);
        turns(m, 0, 6);
    }

    private static void makeRows(MutableCells m) {
        acts(m, 0, a(SET, 0, 8), a(MAKE, 0, 0), a(SET, 1, 7), a(STORE, 0, 1, 1), a(FREEZE, 0), a(MAKE, 3, 1), a(STORE, 3, 2, 1),
            a(LOAD, 3, 0, 1), a(STORE, 0, 1, 1));
        turns(m, 0, 7);
    }

    private static void fillLog(MutableCells m) {
        acts(m, 1, a(SET, 1, 1), a(ADD, 2, 2, 1), a(PUT, 3, 2), a(JUMP, 1));
        m.play(1, 100);
    }

    /** A hundred TURNS of THREAD 0 come to fifty FAILURES. */
    private static void goTo5000(MutableCells m, int left) {
        acts(m, 0, a(TRY, 0), a(THROW, 1));
        for (int i = 0; i < 99; i++) {
            m.play(i, 100);
        }
        m.play(99, 100 - 2 * left);
        acts(m, 1, a(SET, 1, 1), a(SET, 1, 2));
    }

    private static boolean isSpent(Station station) {
        return station.name().startsWith("behind the 5000th");
    }

    /** All that an object tells. */
    private static List<Integer> tells(MutableCells m) {
        List<Integer> tells = new ArrayList<>();
        for (int t = 0; t < 3; t++) {
            for (int what = 0; what < 7; what++) {
                tells.add(m.told(t, what));
            }
            for (int i = 0; i < 4; i++) {
                tells.add(m.register(t, i));
            }
        }
        for (int c = 0; c < 8; c++) {
            tells.add(m.cell(c));
            tells.add(m.lazy(c));
        }
        for (int r = 0; r < 4; r++) {
            tells.add(m.size(r));
            tells.add(m.frozen(r));
            for (int i = 0; i < 8; i++) {
                tells.add(m.item(r, i));
            }
        }
        tells.add(m.writes());
        for (int i = 0; i < 30; i++) {
            tells.add(m.write(i, i % 3));
        }
        return tells;
    }

    /** What comes behind: what is hidden shows in it, as ACTS, PLACES of TRYS, what an ATOM read and PUT, counted FAILURES. */
    private static List<Integer> goesOn(MutableCells m) {
        List<Integer> answers = new ArrayList<>();
        for (int i = 0; i < 12; i++) {
            answers.add(m.turn(i % 3));
        }
        answers.add(m.play(99, 60));
        for (int t = 0; t < 3; t++) {
            answers.add(m.told(t, PLACE));
            answers.add(m.told(t, TURNS));
            answers.add(m.told(t, ANEWS));
            answers.add(m.register(t, 1));
        }
        for (int c = 0; c < 8; c++) {
            answers.add(m.cell(c));
        }
        answers.add(m.writes());
        answers.add(m.again());
        for (int t = 0; t < 3; t++) {
            answers.add(m.act(t, SET, 0, 1, 0));
        }
        answers.add(m.play(5, 40));
        answers.add(m.writes());
        answers.add(m.clear());
        return answers;
    }

    private static void refused(Station station, List<Call> calls) {
        for (int from = 0; from < calls.size(); from += 40) {
            MutableCells alone = new MutableCells();
            MutableCells asked = new MutableCells();
            station.use().accept(alone);
            station.use().accept(asked);
            for (Call call : calls.subList(from, Math.min(from + 40, calls.size()))) {
                due(call.name(), call.call().applyAsInt(asked), call.want());
            }
            due("what it tells then is the same", tells(asked).equals(tells(alone)) ? 1 : 0, 1);
            due("what it answers behind is the same", goesOn(asked).equals(goesOn(alone)) ? 1 : 0, 1);
        }
    }

    /** Which of x, y, z name something by each KIND: R a REGISTER, C a CELL, W a ROW, P a PLACE, - is not looked at. */
    private static final String[] NAMED = {"R--", "RC-", "CR-", "RRR", "RRR", "RRR", "RRR", "RWR", "WRR", "CRR", "P--", "RP-",
        "---", "---", "P--", "---", "R--", "WR-", "W--", "CC-"};

    private static int[] outsideOf(char sign) {
        switch (sign) {
            case '-': return new int[0];
            case 'C': return new int[] {-1, 8, MIN, MAX};
            case 'P': return new int[] {-1, 25, MIN, MAX};
            default: return new int[] {-1, 4, MIN, MAX};
        }
    }

    private static void outsideOfAct(Station station) {
        part = station.name() + ", act OUTSIDE";
        List<Call> calls = new ArrayList<>();
        for (int kind = 0; kind < 20; kind++) {
            int k = kind;
            for (int at = 0; at < 3; at++) {
                for (int number : outsideOf(NAMED[kind].charAt(at))) {
                    int x = at == 0 ? number : 0;
                    int y = at == 1 ? number : 0;
                    int z = at == 2 ? number : 0;
                    int t = calls.size() % 3;
                    calls.add(new Call("act(" + t + ", " + k + ", " + x + ", " + y + ", " + z + ")", m -> m.act(t, k, x, y, z), OUTSIDE));
                }
            }
        }
        for (int number : new int[] {-1, 20, MIN, MAX}) {
            calls.add(new Call("act, KIND " + number, m -> m.act(0, number, 0, 0, 0), OUTSIDE));
        }
        for (int number : new int[] {-1, 3, MIN, MAX}) {
            calls.add(new Call("act, THREAD " + number, m -> m.act(number, SET, 0, 0, 0), OUTSIDE));
        }
        refused(station, calls);
    }

    private static void outsideOfOthers(Station station) {
        part = station.name() + ", OUTSIDE";
        List<Call> calls = new ArrayList<>();
        for (int number : new int[] {-1, 3, MIN, MAX}) {
            calls.add(new Call("turn " + number, m -> m.turn(number), OUTSIDE));
            calls.add(new Call("told " + number, m -> m.told(number, 0), OUTSIDE));
            calls.add(new Call("register of THREAD " + number, m -> m.register(number, 0), OUTSIDE));
            calls.add(new Call("write, what " + number, m -> m.write(0, number), OUTSIDE));
        }
        for (int number : new int[] {-1, 4, MIN, MAX}) {
            calls.add(new Call("register " + number, m -> m.register(0, number), OUTSIDE));
            calls.add(new Call("size " + number, m -> m.size(number), OUTSIDE));
            calls.add(new Call("item " + number, m -> m.item(number, 0), OUTSIDE));
            calls.add(new Call("frozen " + number, m -> m.frozen(number), OUTSIDE));
        }
        for (int number : new int[] {-1, 8, MIN, MAX}) {
            calls.add(new Call("cell " + number, m -> m.cell(number), OUTSIDE));
            calls.add(new Call("lazy " + number, m -> m.lazy(number), OUTSIDE));
            calls.add(new Call("put " + number, m -> m.put(number, 12345), OUTSIDE));
        }
        for (int number : new int[] {0, 101, -1, MIN, MAX}) {
            calls.add(new Call("play, n " + number, m -> m.play(1, number), OUTSIDE));
        }
        for (int number : new int[] {-1, 7, MIN, MAX}) {
            calls.add(new Call("told, what " + number, m -> m.told(1, number), OUTSIDE));
        }
        refused(station, calls);
    }

    private static void stateAndRoom(Station station) {
        part = station.name() + ", STATE and ROOM";
        MutableCells seen = new MutableCells();
        station.use().accept(seen);
        List<Call> calls = new ArrayList<>();
        boolean noneGoes = true;
        for (int t = 0; t < 3; t++) {
            int thread = t;
            boolean goes = seen.told(t, IS) == GOES && !isSpent(station);
            noneGoes &= !goes;
            if (!goes) {
                calls.add(new Call("turn " + t, m -> m.turn(thread), STATE));
            }
            if (seen.told(t, TURNS) > 0) {
                calls.add(new Call("act behind a TURN " + t, m -> m.act(thread, SET, 0, 9, 0), STATE));
            } else if (t == station.full()) {
                calls.add(new Call("the 25th ACT " + t, m -> m.act(thread, SET, 0, 9, 0), ROOM));
            }
        }
        if (noneGoes) {
            calls.add(new Call("play where none GOES", m -> m.play(3, 100), 0));
        }
        refused(station, calls);
    }

    private static void noneAndAsked(Station station) {
        part = station.name() + ", NONE";
        List<Call> calls = new ArrayList<>();
        for (int number : new int[] {-1, 30, 31, MIN, MAX}) {
            calls.add(new Call("write " + number, m -> m.write(number, 2), NONE));
        }
        for (int number : new int[] {-1, 8, MIN, MAX}) {
            calls.add(new Call("item " + number, m -> m.item(0, number), 0));
        }
        refused(station, calls);
        part = station.name() + ", asked";
        MutableCells alone = new MutableCells();
        MutableCells asked = new MutableCells();
        station.use().accept(alone);
        station.use().accept(asked);
        tells(asked);
        due("what it answers behind is the same", goesOn(asked).equals(goesOn(alone)) ? 1 : 0, 1);
    }
}
