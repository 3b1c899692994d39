import java.util.Arrays;
import java.util.Random;

/** Long runs of calls, drawn with a fixed seed, on the class and on the model: they answer alike. */
public final class ModelTest {
    // With what is compared at a run's end, and what its last draw asks, an object has fewer than 512 calls.
    private static final int RUNS = 12000, MOST_CALLS = 260, METHODS = 36;
    private static final String[] CLAUSES = {
        "machine 0 3 5 3", "machine 2 6 33 60", "machine 5 4 9 7", "machine 3 2 3 1", "state 0 1", "state 1 40",
        "carry 0 -9", "carry 2 5", "carry 1 10", "taps 0 3", "taps 1 1", "step 0 7", "step 1 30", "step 2 31",
        "drop", "step0-1", "carry\n0-3", "machine 0 1 1 1", "drop ", "\ndrop", "taps 3 63"
    };
    private static final String[] SCRAPS = {
        ";", "-", "- 1", "100", "-100", "machine", "x", "A", "drops", " ", "\n", "7", "-7", "\t", ",", "stat", "e", "00"
    };

    private final Random lot;
    private final Due due = new Due();
    private CarryShifts real;
    private Model model;
    private final StringBuilder story = new StringBuilder();
    private int calls = 0;

    private ModelTest(long seed) {
        lot = new Random(seed);
    }

    public static void main(String[] args) {
        ModelTest test = new ModelTest(20261118L);
        for (int run = 0; run < RUNS && !test.due.anyWrong(); run++) {
            test.runOnce();
        }
        if (test.due.anyWrong()) {
            System.out.println(test.story);
        }
        test.due.end();
    }

    /** Runs are of all lengths, so that nothing goes wrong for a while only without being seen. */
    private void runOnce() {
        real = new CarryShifts();
        model = new Model();
        story.setLength(0);
        calls = 0;
        int end = upTo(1, MOST_CALLS);
        while (calls < end && !due.anyWrong()) {
            callOne();
        }
        compareMachines();
        compareSheets();
    }

    private int upTo(int low, int high) {
        return low + lot.nextInt(high - low + 1);
    }

    /** Mostly a number of the range, now and then its edges, those beside them, or any int. */
    private int near(int low, int high) {
        switch (lot.nextInt(24)) {
            case 0: return low - 1;
            case 1: return high + 1;
            case 2: return low;
            case 3: return high;
            case 4: return lot.nextInt(4) == 0 ? lot.nextInt() : upTo(low, high);
            case 5: return lot.nextInt(4) == 0 ? Integer.MIN_VALUE : upTo(low, high);
            case 6: return lot.nextInt(4) == 0 ? Integer.MAX_VALUE : upTo(low, high);
            default: return upTo(low, high);
        }
    }

    private int sheet() {
        return near(0, 3);
    }

    private int machine() {
        return near(0, Math.max(0, model.count(0) - 1));
    }

    private int cells() {
        return near(1, 6);
    }

    private void is(String call, long got, long want) {
        calls++;
        story.append(call).append(" = ").append(want).append('\n');
        due.is(call, got, want);
    }

    private static String call(String name, int... v) {
        return name + Arrays.toString(v);
    }

    private void callOne() {
        int which = lot.nextInt(METHODS + 12);
        if (which < 9) {
            callMachines(which);
        } else if (which < 16) {
            callFractions(which);
        } else if (which < 26) {
            callRows(which);
        } else if (which < METHODS) {
            callHost(which);
        } else {
            callMaking(which - METHODS);
        }
    }

    private void callMachines(int which) {
        int m = machine();
        switch (which) {
            case 0: {
                if (lot.nextInt(3) == 0) {
                    is("drop()", real.drop(), model.drop());
                }
                break;
            }
            case 1: {
                int what = near(0, 3);
                int v = what == 1 ? near(-9, 9) : what == 3 ? near(0, 5) : near(0, 63 >> lot.nextInt(5));
                is(call("set", m, what, v), real.set(m, what, v), model.set(m, what, v));
                break;
            }
            case 2: {
                int what = near(0, 6);
                is(call("of", m, what), real.of(m, what), model.of(m, what));
                break;
            }
            case 3: {
                int k = near(0, 5);
                is(call("taken", m, k), real.taken(m, k), model.taken(m, k));
                break;
            }
            case 4: {
                int n = near(1, 30);
                is(call("step", m, n), real.step(m, n), model.step(m, n));
                break;
            }
            case 5: {
                int n = near(0, 40), what = near(0, 2);
                is(call("then", m, n, what), real.then(m, n, what), model.then(m, n, what));
                break;
            }
            case 6: {
                int s = sheet(), n = near(0, 40);
                is(call("film", s, m, n), real.film(s, m, n), model.film(s, m, n));
                break;
            }
            case 7: {
                int s = sheet(), set = near(0, (1 << model.count(0)) - 1), n = near(0, 40), is = near(0, 1);
                is(call("mix", s, set, n, is), real.mix(s, set, n, is), model.mix(s, set, n, is));
                break;
            }
            default: {
                int what = near(0, 1);
                is(call("cycle", m, what), real.cycle(m, what), model.cycle(m, what));
            }
        }
    }

    private void callFractions(int which) {
        int s = sheet();
        switch (which) {
            case 9: {
                is(call("number", s), real.number(s), model.number(s));
                break;
            }
            case 10: {
                boolean small = lot.nextBoolean();
                int p = small ? near(-70, 70) : near(-9999, 9999);
                int q = small ? near(1, 127) | lot.nextInt(4) / 3 : near(1, 9999);
                int n = near(0, 40);
                is(call("expand", s, p, q, n), real.expand(s, p, q, n), model.expand(s, p, q, n));
                break;
            }
            case 11: {
                int p = near(-9999, 9999), q = near(1, 9999 >> lot.nextInt(10)), what = near(0, 1);
                is(call("period", p, q, what), real.period(p, q, what), model.period(p, q, what));
                break;
            }
            case 12: {
                int what = near(0, 3);
                is(call("fraction", s, what), real.fraction(s, what), model.fraction(s, what));
                break;
            }
            case 13: {
                int m = machine(), part = near(0, 1);
                is(call("told", m, part), real.told(m, part), model.told(m, part));
                break;
            }
            case 14: {
                is(call("build", s), real.build(s), model.build(s));
                break;
            }
            default: {
                is(call("compare", s), real.compare(s), model.compare(s));
            }
        }
    }

    private void callRows(int which) {
        int s = sheet(), m = machine();
        switch (which) {
            case 16: {
                int what = near(0, 1);
                is(call("linear", s, what), real.linear(s, what), model.linear(s, what));
                break;
            }
            case 17: {
                int n = near(0, 40), what = near(0, 1);
                is(call("twin", m, n, what), real.twin(m, n, what), model.twin(m, n, what));
                break;
            }
            case 18: {
                int w = near(1, 8), what = near(0, 2);
                is(call("windows", s, w, what), real.windows(s, w, what), model.windows(s, w, what));
                break;
            }
            case 19: {
                int bit = near(-1, 1), length = near(1, 5);
                is(call("runs", s, bit, length), real.runs(s, bit, length), model.runs(s, bit, length));
                break;
            }
            case 20: case 21: {
                int what = near(0, 2);
                is(call("replays", m, s, what), real.replays(m, s, what), model.replays(m, s, what));
                break;
            }
            case 22: {
                int kind = near(0, 5), cells = cells();
                is(call("search", s, kind, cells), real.search(s, kind, cells), model.search(s, kind, cells));
                break;
            }
            case 23: {
                int n = near(0, 40);
                is(call("alike", m, n), real.alike(m, n), model.alike(m, n));
                break;
            }
            case 24: {
                int seed = lot.nextInt(), n = near(0, 8);
                is(call("drawn", s, seed, n), real.drawn(s, seed, n), model.drawn(s, seed, n));
                break;
            }
            default: {
                int seed = near(Integer.MAX_VALUE - 5, Integer.MAX_VALUE), many = near(1, 20), n = near(0, 8), k = near(0, 40);
                int part = near(0, 1);
                is(call("chance", s, seed, many, n, k, part), real.chance(s, seed, many, n, k, part),
                        model.chance(s, seed, many, n, k, part));
            }
        }
    }

    private void callHost(int which) {
        int s = sheet();
        switch (which) {
            case 26: {
                int n = near(1, 5), a = near(0, 255), b = near(0, 255), c = near(0, 255), d = near(0, 255), e = near(0, 255);
                is(call("feed", n, a, b, c, d, e), real.feed(n, a, b, c, d, e), model.feed(n, a, b, c, d, e));
                break;
            }
            case 27: {
                is("text()", real.text(), model.text());
                break;
            }
            case 28: {
                if (lot.nextInt(3) == 0) {
                    is("image()", real.image(), model.image());
                }
                break;
            }
            case 29: {
                if (lot.nextInt(3) == 0) {
                    is("back()", real.back(), model.back());
                }
                break;
            }
            case 30: {
                int sort = near(0, 1), from = near(0, 40), n = near(0, 4);
                is(call("load", s, sort, from, n), real.load(s, sort, from, n), model.load(s, sort, from, n));
                break;
            }
            case 31: {
                int what = near(0, 4);
                is(call("count", what), real.count(what), model.count(what));
                break;
            }
            case 32: {
                int sort = near(-1, 1), n = near(0, 40);
                is(call("sheet", s, sort, n), real.sheet(s, sort, n), model.sheet(s, sort, n));
                break;
            }
            case 33: case 34: {
                int i = near(0, 39 >> lot.nextInt(4)), v = lot.nextInt(200000) - 100000;
                is(call("put", s, i, v), real.put(s, i, v), model.put(s, i, v));
                break;
            }
            default: {
                int o = sheet(), i = near(0, 10), j = near(0, 10), n = near(0, 10);
                is(call("copy", s, i, o, j, n), real.copy(s, i, o, j, n), model.copy(s, i, o, j, n));
            }
        }
    }

    /** Calls that make something of which the others can ask. */
    private void callMaking(int which) {
        switch (which) {
            case 0: case 1: case 2: {
                int kind = near(0, 5), cells = cells(), all = cells > 0 && cells < 9 ? (1 << cells) - 1 : 1;
                int taps = near(1, all), state = near(0, all);
                is(call("machine", kind, cells, taps, state), real.machine(kind, cells, taps, state),
                        model.machine(kind, cells, taps, state));
                break;
            }
            case 3: case 4: case 5: {
                feedText();
                if (lot.nextInt(3) > 0) {
                    is("text()", real.text(), model.text());
                }
                break;
            }
            case 6: case 7: {
                putMachines();
                break;
            }
            case 8: {
                shortRow();
                break;
            }
            case 9: {
                filmAndSpoil();
                break;
            }
            default: {
                int m = machine(), s = sheet();
                int n = near(0, 24);
                is(call("film", s, m, n), real.film(s, m, n), model.film(s, m, n));
            }
        }
    }

    private void feedText() {
        StringBuilder text = new StringBuilder(CLAUSES[lot.nextInt(CLAUSES.length)]);
        int more = lot.nextInt(4);
        for (int i = 0; i < more; i++) {
            text.append(lot.nextInt(8) == 0 ? " " : ";").append(CLAUSES[lot.nextInt(CLAUSES.length)]);
        }
        if (lot.nextInt(3) == 0) {
            text.insert(lot.nextInt(text.length() + 1), SCRAPS[lot.nextInt(SCRAPS.length)]);
        }
        for (int i = 0; i < text.length(); i += 5) {
            int[] b = new int[5];
            int n = Math.min(5, text.length() - i);
            for (int k = 0; k < n; k++) {
                b[k] = text.charAt(i + k);
            }
            is(call("feed", n, b[0], b[1], b[2], b[3], b[4]), real.feed(n, b[0], b[1], b[2], b[3], b[4]),
                    model.feed(n, b[0], b[1], b[2], b[3], b[4]));
        }
    }

    private void putMachines() {
        int s = upTo(0, 3), sort = upTo(0, 1), size = upTo(0, 17);
        is(call("sheet", s, sort, size), real.sheet(s, sort, size), model.sheet(s, sort, size));
        for (int i = 0; i < size; i++) {
            int v = i % 4 == 0 ? upTo(0, 6) : i % 4 == 1 ? upTo(1, 6) : upTo(0, 5);
            v += lot.nextInt(20) == 0 ? 65536 : 0;
            is(call("put", s, i, v), real.put(s, i, v), model.put(s, i, v));
        }
        int from = near(0, 3), n = upTo(0, 4);
        is(call("load", s, sort, from, n), real.load(s, sort, from, n), model.load(s, sort, from, n));
    }

    private void shortRow() {
        int s = upTo(0, 3), size = upTo(0, 12);
        is(call("sheet", s, 1, size), real.sheet(s, 1, size), model.sheet(s, 1, size));
        for (int i = 0; i < size; i++) {
            int v = lot.nextInt();
            is(call("put", s, i, v), real.put(s, i, v), model.put(s, i, v));
        }
        int kind = upTo(0, 5), cells = upTo(1, 4);
        is(call("search", s, kind, cells), real.search(s, kind, cells), model.search(s, kind, cells));
        is(call("build", s), real.build(s), model.build(s));
    }

    private void filmAndSpoil() {
        int m = machine(), s = upTo(0, 3), n = upTo(0, 40), i = upTo(0, 39);
        is(call("film", s, m, n), real.film(s, m, n), model.film(s, m, n));
        for (int what = 0; what < 3; what++) {
            is(call("replays", m, s, what), real.replays(m, s, what), model.replays(m, s, what));
        }
        is(call("put", s, i, 1), real.put(s, i, 1), model.put(s, i, 1));
        is(call("replays", m, s, 0), real.replays(m, s, 0), model.replays(m, s, 0));
    }

    private void compareMachines() {
        due.is("count(0) after", real.count(0), model.count(0));
        due.is("count(1) after", real.count(1), model.count(1));
        for (int m = 0; m < 4; m++) {
            for (int what = 0; what < 7; what++) {
                due.is(call("of after", m, what), real.of(m, what), model.of(m, what));
            }
        }
        for (int s = 0; s < 4; s++) {
            due.is(call("number after", s), real.number(s), model.number(s));
        }
    }

    /** Sorts and sizes: a load of none tells the sort, a copy onto itself where a sheet ends. */
    private void compareSheets() {
        for (int s = 0; s < 4; s++) {
            for (int sort = 0; sort < 2; sort++) {
                due.is(call("load after", s, sort), real.load(s, sort, 0, 0), model.load(s, sort, 0, 0));
            }
            for (int i = 0; i <= 40; i++) {
                due.is(call("copy after", s, i), real.copy(s, i, s, i, 1), model.copy(s, i, s, i, 1));
            }
        }
    }
}
