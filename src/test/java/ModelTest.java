/** Seeded runs of calls, each answered by MutableCells and by Model. The same runs come each time. */
public final class ModelTest {
    private static final int RUNS = 6000, CALLS = 512;
    private static final int[] ODD = {-1, -2, 8, 9, 24, 25, 100, 101, Integer.MIN_VALUE, Integer.MAX_VALUE};

    private static final Check check = new Check();
    private static final int[] met = new int[7];
    private static final int[] failures = new int[18];
    private static long state;

    private static MutableCells it;
    private static Model model;
    private static int[] ends = new int[3];

    public static void main(String[] args) {
        for (int run = 0; run < RUNS && check.wrong() == 0; run++) {
            state = run * 7919L + 17;
            it = new MutableCells();
            model = new Model();
            oneRun(run);
            for (int i = 0; i < failures.length; i++) {
                failures[i] += model.seen[i];
            }
        }
        for (int i = 0; i < met.length; i++) {
            check.holds("the runs meet what they are there for, " + i + ": " + met[i], met[i] > 100);
        }
        for (int i = 1; i < failures.length; i++) {
            check.holds("the runs meet FAILURE " + i + ": " + failures[i], i == 9 || failures[i] > 100);
        }
        check.finish();
    }

    private static int below(int end) {
        state = state * 6364136223846793005L + 1442695040888963407L;
        return (int) ((state >>> 33) % end);
    }

    /** Mostly a number below end, at times one that is likely to be out of bounds. */
    private static int about(int end) {
        return below(60) == 0 ? ODD[below(ODD.length)] : below(end);
    }

    private static void oneRun(int run) {
        String name = "run " + run;
        tellActs(name);
        for (int call = 0; call < CALLS - 150 && check.wrong() == 0; call++) {
            oneCall(name + ", call " + call);
        }
        compareAll(name);
    }

    private static void tellActs(String name) {
        int style = below(6);
        for (int t = 0; t < 3; t++) {
            ends[t] = below(8) == 0 ? 26 : 4 + below(20);
            for (int i = 0; i < ends[t]; i++) {
                if (style < 4) {
                    tellAct(name + ", act", t, kind(style));
                } else {
                    tellPattern(name + ", pattern", t, style == 4 ? ATOMS : ROWS, i);
                }
            }
        }
    }

    /** Kinds by their place: random ones seldom come to an END, or to a FROZEN ROW that has ITEMS. */
    private static final int[] ATOMS = {0, 12, 1, 9, 14, 3, 2, 1, 15, 2, 13, 2, 10}, ROWS = {0, 17, 0, 8, 7, 14, 18, 0, 15, 7, 8, 10};

    private static void tellPattern(String name, int thread, int[] kinds, int i) {
        int kind = below(7) == 0 ? below(20) : kinds[i % kinds.length];
        int x = kind == 10 ? 1 : kind == 14 ? i + 1 + below(4) : below(kind == 2 || kind == 9 ? 3 : 2);
        int y = kind == 0 ? below(4) : below(kind == 1 ? 3 : 2);
        int z = below(2);
        check.due(name + " " + thread + " " + kind + " " + x + " " + y + " " + z, it.act(thread, kind, x, y, z),
            model.act(thread, kind, x, y, z));
    }

    private static int kind(int style) {
        int[][] likely = {{0, 1, 2, 9, 12, 13, 14, 15}, {1, 2, 12, 12, 13, 13, 9}, {7, 8, 17, 18, 0, 14, 16}, {19, 1, 9, 2, 14, 11}};
        return below(3) == 0 ? below(20) : likely[style][below(likely[style].length)];
    }

    private static void tellAct(String name, int thread, int kind) {
        int x = about(kind == 10 || kind == 14 ? ends[thread] % 26 + 1 : kind == 2 || kind == 9 || kind == 19 ? 8 : 4);
        int y = kind == 0 ? below(14) - 3 : about(kind == 11 ? ends[thread] + 1 : kind == 1 || kind == 19 ? 8 : 4);
        int z = about(4);
        check.due(name + " " + thread + " " + kind + " " + x + " " + y + " " + z, it.act(thread, kind, x, y, z),
            model.act(thread, kind, x, y, z));
    }

    private static void oneCall(String name) {
        int which = below(40);
        int thread = about(3);
        int c = about(8);
        if (which < 18) {
            check.due(name + ": turn", it.turn(thread), model.turn(thread));
        } else if (which < 25) {
            int s = below(1 << 30) * 7;
            int n = below(12) == 0 ? about(102) : 1 + below(9);
            check.due(name + ": play", it.play(s, n), model.play(s, n));
        } else if (which < 29) {
            int v = below(5);
            check.due(name + ": put", it.put(c, v), model.put(c, v));
        } else if (which == 29 && below(3) == 0) {
            restart(name);
        } else if (which < 32) {
            compareThreads(name);
        } else {
            compareOne(name, which, c);
        }
    }

    private static void restart(String name) {
        note();
        if (below(2) == 0) {
            check.due(name + ": again", it.again(), model.again());
            tellAct(name, below(3), below(20));
        } else {
            check.due(name + ": clear", it.clear(), model.clear());
            tellActs(name);
        }
    }

    private static void compareOne(String name, int which, int c) {
        int row = about(4);
        int i = about(9);
        switch (which) {
            case 32 -> check.due(name + ": cell", it.cell(c), model.cell(c));
            case 33 -> check.due(name + ": lazy", it.lazy(c), model.lazy(c));
            case 34 -> check.due(name + ": size", it.size(row), model.size(row));
            case 35 -> check.due(name + ": item", it.item(row, i), model.item(row, i));
            case 36 -> check.due(name + ": frozen", it.frozen(row), model.frozen(row));
            case 37 -> {
                int thread = about(3);
                check.due(name + ": register", it.register(thread, row), model.register(thread, row));
            }
            case 38 -> check.due(name + ": writes", it.writes(), model.writes());
            default -> {
                int at = about(32);
                check.due(name + ": write", it.write(at, i % 4), model.write(at, i % 4));
            }
        }
    }

    private static void compareThreads(String name) {
        for (int t = -1; t < 4; t++) {
            for (int what = -1; what < 8; what++) {
                check.due(name + ": told " + t + " " + what, it.told(t, what), model.told(t, what));
            }
            for (int i = -1; i < 5; i++) {
                check.due(name + ": register " + t + " " + i, it.register(t, i), model.register(t, i));
            }
        }
    }

    private static void compareAll(String name) {
        note();
        compareThreads(name);
        for (int c = -1; c < 9; c++) {
            check.due(name + ": cell " + c, it.cell(c), model.cell(c));
            check.due(name + ": lazy " + c, it.lazy(c), model.lazy(c));
        }
        for (int row = -1; row < 5; row++) {
            check.due(name + ": size " + row, it.size(row), model.size(row));
            check.due(name + ": frozen " + row, it.frozen(row), model.frozen(row));
            for (int i = -1; i < 9; i++) {
                check.due(name + ": item " + row + " " + i, it.item(row, i), model.item(row, i));
            }
        }
        check.due(name + ": writes", it.writes(), model.writes());
        for (int i = -1; i < 31; i++) {
            for (int what = -1; what < 4; what++) {
                check.due(name + ": write " + i + " " + what, it.write(i, what), model.write(i, what));
            }
        }
    }

    /** Counts what a run came to, so that the runs can't miss the document's harder parts unseen. */
    private static void note() {
        for (int t = 0; t < 3; t++) {
            met[0] += model.told(t, 0) == 0 ? 1 : 0;
            met[1] += model.told(t, 0) == 1 && model.told(t, 5) > 0 ? 1 : 0;
            met[2] += model.told(t, 6) > 0 ? 1 : 0;
            met[3] += model.told(t, 4);
            met[4] += model.told(t, 3) > 1 ? 1 : 0;
        }
        met[5] += model.writes() > 30 ? 1 : 0;
        met[6] += model.lazy(0) + model.lazy(1) + model.lazy(2);
    }
}
