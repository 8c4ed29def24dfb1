import java.util.ArrayDeque;
import java.util.ArrayList;
import java.util.Arrays;
import java.util.HashSet;
import java.util.LinkedHashMap;
import java.util.List;
import java.util.Map;
import java.util.Set;
import java.util.TreeMap;

/** The document written down a second time, with exceptions and the library's collections, to compare answers with. */
final class Model {
    private static final int NONE = -1, OUTSIDE = -2, STATE = -3, ROOM = -4;

    private static final class Failure extends RuntimeException {
        private static final long serialVersionUID = 1L;
        final int number;

        Failure(int number) {
            super(null, null, false, false);
            this.number = number;
        }
    }

    private record Step(int kind, int x, int y, int z) { }

    private record Attempt(int place, boolean inAtom) { }

    private record Write(int thread, int cell, int number) { }

    private static final class Open {
        final int begin;
        final int[] registers;
        final List<Attempt> attempts;
        final Map<Integer, Integer> first = new LinkedHashMap<>();
        final TreeMap<Integer, Integer> puts = new TreeMap<>();

        Open(int begin, int[] registers, List<Attempt> attempts) {
            this.begin = begin;
            this.registers = registers.clone();
            this.attempts = new ArrayList<>(attempts);
        }
    }

    private static final class Worker {
        final int number;
        final List<Step> steps = new ArrayList<>();
        int[] r = new int[4];
        int place, turns, anews, failedBy;
        boolean failed;
        List<Attempt> attempts = new ArrayList<>();
        Open open;

        Worker(int number) {
            this.number = number;
        }

        int state() {
            if (failed) {
                return 2;
            }
            return place >= steps.size() && attempts.isEmpty() && open == null ? 1 : 0;
        }
    }

    private Worker[] workers = {new Worker(0), new Worker(1), new Worker(2)};
    private Integer[] numbers = new Integer[8];
    private int[] lazyWith = new int[8];
    private int[][] rows = new int[4][];
    private Set<Integer> frozen = new HashSet<>();
    private ArrayDeque<Write> log = new ArrayDeque<>();
    private int turnsDone, failures;
    /** How often each FAILURE was met, for ModelTest to know what its runs come to. */
    final int[] seen = new int[18];

    Model() {
        Arrays.fill(numbers, 0);
    }

    private static boolean in(int number, int end) {
        return 0 <= number && number < end;
    }

    // R register, C cell, W row, P place, - anything
    private static final String[] SHAPES = {"R--", "RC-", "CR-", "RRR", "RRR", "RRR", "RRR", "RWR", "WRR", "CRR", "P--", "RP-",
        "---", "---", "P--", "---", "R--", "WR-", "W--", "CC-"};

    int act(int thread, int kind, int x, int y, int z) {
        if (!in(thread, 3) || !in(kind, 20)) {
            return OUTSIDE;
        }
        int[] numbers = {x, y, z};
        for (int i = 0; i < 3; i++) {
            int end = switch (SHAPES[kind].charAt(i)) {
                case 'R', 'W' -> 4;
                case 'C' -> 8;
                case 'P' -> 25;
                default -> -1;
            };
            if (end >= 0 && !in(numbers[i], end)) {
                return OUTSIDE;
            }
        }
        Worker w = workers[thread];
        if (w.turns != 0) {
            return STATE;
        }
        if (w.steps.size() == 24) {
            return ROOM;
        }
        w.steps.add(new Step(kind, x, y, z));
        return w.steps.size();
    }

    int turn(int thread) {
        if (!in(thread, 3)) {
            return OUTSIDE;
        }
        if (workers[thread].state() != 0 || failures >= 5000) {
            return STATE;
        }
        go(workers[thread]);
        return workers[thread].state();
    }

    int play(int s, int n) {
        if (n < 1 || n > 100) {
            return OUTSIDE;
        }
        int done = 0;
        while (done < n && failures < 5000) {
            List<Worker> going = new ArrayList<>();
            for (Worker w : workers) {
                if (w.state() == 0) {
                    going.add(w);
                }
            }
            if (going.isEmpty()) {
                break;
            }
            s = s * 1103515245 + 12345;
            go(going.get((s >>> 16) % going.size()));
            done++;
        }
        return done;
    }

    private void go(Worker w) {
        w.turns++;
        turnsDone++;
        try {
            if (w.place >= w.steps.size()) {
                throw new Failure(5);
            }
            w.place = step(w, w.steps.get(w.place));
        } catch (Failure f) {
            failures++;
            seen[f.number]++;
            if (w.attempts.isEmpty()) {
                w.failed = true;
                w.failedBy = f.number;
                w.open = null;
            } else {
                Attempt latest = w.attempts.remove(w.attempts.size() - 1);
                if (w.open != null && !latest.inAtom()) {
                    w.open = null;
                }
                w.r[0] = f.number;
                w.place = latest.place();
            }
        }
    }

    private int step(Worker w, Step a) {
        int next = w.place + 1;
        int[] r = w.r;
        int x = a.x(), y = a.y(), z = a.z();
        if (w.open != null && (a.kind() == 7 || a.kind() == 8 || a.kind() >= 17)) {
            throw new Failure(5);
        }
        switch (a.kind()) {
            case 0 -> r[x] = y;
            case 1 -> r[x] = read(w, y);
            case 2 -> set(w, x, r[y]);
            case 3 -> r[x] = r[y] + r[z];
            case 4 -> r[x] = r[y] - r[z];
            case 5 -> r[x] = r[y] * r[z];
            case 6 -> {
                if (r[z] == 0) {
                    throw new Failure(2);
                }
                r[x] = (int) ((long) r[y] / r[z]);
            }
            case 7 -> {
                checkItem(y, r[z]);
                r[x] = rows[y][r[z]];
            }
            case 8 -> {
                checkItem(x, r[y]);
                if (frozen.contains(x)) {
                    throw new Failure(4);
                }
                rows[x][r[y]] = r[z];
            }
            case 9 -> {
                if (read(w, x) == r[y]) {
                    set(w, x, r[z]);
                    r[y] = 1;
                } else {
                    r[y] = 0;
                }
            }
            case 10 -> next = x;
            case 11 -> next = r[x] == 0 ? y : next;
            case 12 -> {
                if (w.open != null) {
                    throw new Failure(5);
                }
                w.open = new Open(w.place, r, w.attempts);
            }
            case 13 -> next = end(w, next);
            case 14 -> {
                if (w.attempts.size() == 4) {
                    throw new Failure(5);
                }
                w.attempts.add(new Attempt(x, w.open != null));
            }
            case 15 -> {
                int count = w.attempts.size();
                if (count == 0 || w.open != null && !w.attempts.get(count - 1).inAtom()) {
                    throw new Failure(5);
                }
                w.attempts.remove(count - 1);
            }
            case 16 -> throw new Failure(10 + Math.floorMod(r[x], 8));
            case 17 -> {
                if (r[y] < 0 || r[y] > 8) {
                    throw new Failure(r[y] < 0 ? 6 : 7);
                }
                rows[x] = new int[r[y]];
                frozen.remove(x);
            }
            case 18 -> {
                if (rows[x] == null) {
                    throw new Failure(1);
                }
                frozen.add(x);
            }
            default -> {
                numbers[x] = null;
                lazyWith[x] = y;
            }
        }
        return next;
    }

    private int end(Worker w, int next) {
        if (w.open == null) {
            throw new Failure(5);
        }
        for (Attempt attempt : w.attempts) {
            if (attempt.inAtom()) {
                throw new Failure(5);
            }
        }
        for (Map.Entry<Integer, Integer> first : w.open.first.entrySet()) {
            if (!first.getValue().equals(numbers[first.getKey()])) {
                w.anews++;
                w.r = w.open.registers.clone();
                w.attempts = new ArrayList<>(w.open.attempts);
                w.open = new Open(w.open.begin, w.r, w.attempts);
                return w.open.begin + 1;
            }
        }
        w.open.puts.forEach((c, number) -> count(w, c, number));
        w.open = null;
        return next;
    }

    private void checkItem(int row, int i) {
        if (rows[row] == null) {
            throw new Failure(1);
        }
        if (!in(i, rows[row].length)) {
            throw new Failure(3);
        }
    }

    private void set(Worker w, int c, int number) {
        if (w.open != null) {
            w.open.puts.put(c, number);
        } else {
            count(w, c, number);
        }
    }

    private void count(Worker w, int c, int number) {
        numbers[c] = number;
        log.addFirst(new Write(w.number, c, number));
    }

    private int read(Worker w, int c) {
        if (w.open == null) {
            return readDeep(w, c, new HashSet<>());
        }
        Integer put = w.open.puts.get(c);
        if (put != null) {
            return put;
        }
        if (numbers[c] == null) {
            throw new Failure(5);
        }
        w.open.first.putIfAbsent(c, numbers[c]);
        return numbers[c];
    }

    private int readDeep(Worker w, int c, Set<Integer> beingRead) {
        if (numbers[c] == null) {
            if (!beingRead.add(c)) {
                throw new Failure(8);
            }
            count(w, c, 2 * readDeep(w, lazyWith[c], beingRead) + 1);
        }
        return numbers[c];
    }

    int told(int thread, int what) {
        if (!in(thread, 3) || !in(what, 7)) {
            return OUTSIDE;
        }
        Worker w = workers[thread];
        return new int[] {w.state(), w.place, w.failedBy, w.attempts.size(), w.open != null ? 1 : 0, w.turns, w.anews}[what];
    }

    int register(int thread, int i) {
        return in(thread, 3) && in(i, 4) ? workers[thread].r[i] : OUTSIDE;
    }

    int cell(int c) {
        if (!in(c, 8)) {
            return OUTSIDE;
        }
        return numbers[c] == null ? lazyWith[c] : numbers[c];
    }

    int lazy(int c) {
        if (!in(c, 8)) {
            return OUTSIDE;
        }
        return numbers[c] == null ? 1 : 0;
    }

    int size(int row) {
        if (!in(row, 4)) {
            return OUTSIDE;
        }
        return rows[row] == null ? NONE : rows[row].length;
    }

    int item(int row, int i) {
        if (!in(row, 4)) {
            return OUTSIDE;
        }
        return rows[row] == null || !in(i, rows[row].length) ? 0 : rows[row][i];
    }

    int frozen(int row) {
        if (!in(row, 4)) {
            return OUTSIDE;
        }
        return frozen.contains(row) ? 1 : 0;
    }

    int put(int c, int v) {
        int before = cell(c);
        if (in(c, 8)) {
            numbers[c] = v;
        }
        return before;
    }

    int writes() {
        return log.size();
    }

    int write(int i, int what) {
        if (!in(what, 3)) {
            return OUTSIDE;
        }
        if (!in(i, Math.min(30, log.size()))) {
            return NONE;
        }
        Write write = new ArrayList<>(log).get(i);
        return new int[] {write.thread(), write.cell(), write.number()}[what];
    }

    int again() {
        Worker[] before = workers;
        int done = clear();
        for (int t = 0; t < 3; t++) {
            workers[t].steps.addAll(before[t].steps);
        }
        return done;
    }

    int clear() {
        int done = turnsDone;
        turnsDone = 0;
        workers = new Worker[] {new Worker(0), new Worker(1), new Worker(2)};
        Arrays.fill(numbers, 0);
        rows = new int[4][];
        frozen.clear();
        log.clear();
        return done;
    }
}
