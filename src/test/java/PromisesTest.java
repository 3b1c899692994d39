import java.util.function.LongSupplier;

/** Each promise by itself, with answers worked out by hand; that refusals change nothing the edges' tests say. */
public final class PromisesTest {
    private static final int NONE = -1, BAD = -2, STATE = -3, FULL = -4;
    private static final long NO = Long.MIN_VALUE;
    private static final int MIN = Integer.MIN_VALUE, MAX = Integer.MAX_VALUE;
    private final Due due = new Due();
    private CarryShifts x = new CarryShifts();

    public static void main(String[] args) {
        PromisesTest t = new PromisesTest();
        t.newObject();
        t.machine();
        t.drop();
        t.set();
        t.of();
        t.taken();
        t.step();
        t.then();
        t.film();
        t.mix();
        t.number();
        t.expand();
        t.period();
        t.fraction();
        t.told();
        t.build();
        t.cycle();
        t.linear();
        t.twin();
        t.compare();
        t.windows();
        t.runs();
        t.replays();
        t.search();
        t.alike();
        t.drawn();
        t.chance();
        t.feed();
        t.text();
        t.textFaults();
        t.image();
        t.back();
        t.load();
        t.count();
        t.sheet();
        t.put();
        t.copy();
        t.due.end();
    }

    private void fresh() {
        x = new CarryShifts();
    }

    private void is(String call, long got, long want) {
        due.is(call, got, want);
    }

    private void refused(String call, long want, LongSupplier refused) {
        is(call, refused.getAsLong(), want);
    }

    private void asked(String call, long want, LongSupplier asked) {
        is(call, asked.getAsLong(), want);
    }

    private static String machinesOf(CarryShifts x) {
        StringBuilder all = new StringBuilder();
        for (int m = 0; m < 4; m++) {
            for (int what = 0; what < 7; what++) {
                all.append(x.of(m, what)).append(' ');
            }
        }
        return all.toString();
    }

    private void row(int sheet, int... numbers) {
        is("sheet", x.sheet(sheet, 0, numbers.length), 1);
        for (int i = 0; i < numbers.length; i++) {
            is("put", x.put(sheet, i, numbers[i]), 1);
        }
    }

    private void say(String text) {
        for (int i = 0; i < text.length(); i++) {
            is("feed", x.feed(1, text.charAt(i), 0, 0, 0, 0), i + 1);
        }
    }

    private void stands(int machine, int state, int carry) {
        is("STATE of " + machine, x.of(machine, 3), state);
        is("CARRY of " + machine, x.of(machine, 4), carry);
    }

    private void newObject() {
        fresh();
        is("1 count(0)", x.count(0), 0);
        is("1 count(1)", x.count(1), 0);
        is("1 count(2)", x.count(2), 0);
        is("1 back", x.back(), STATE);
        for (int s = 0; s < 4; s++) {
            is("1 number", x.number(s), NO);
            is("1 put", x.put(s, 0, 0), -11);
        }
        is("1 of", x.of(0, 0), -1000);
    }

    private void machine() {
        fresh();
        int[][] bad = {
            {-1, 1, 1, 0}, {6, 1, 1, 0}, {MIN, 1, 1, 0}, {MAX, 1, 1, 0}, {0, 0, 1, 0}, {0, 7, 1, 0}, {0, -1, 1, 0}, {0, 33, 1, 0},
            {0, MIN, 1, 0}, {0, 1, 0, 0}, {0, 1, 2, 0}, {0, 6, 64, 0}, {0, 3, -1, 0}, {0, 1, 1, -1}, {0, 1, 1, 2}, {0, 6, 1, 64}
        };
        for (int[] b : bad) {
            refused("2 machine bad", BAD, () -> x.machine(b[0], b[1], b[2], b[3]));
        }
        is("2 machine", x.machine(0, 1, 1, 0), 0);
        is("2 machine", x.machine(5, 6, 63, 63), 1);
        is("2 machine", x.machine(1, 3, 7, 0), 2);
        is("2 CARRY", x.of(1, 4), 0);
        is("2 machine", x.machine(2, 2, 1, 3), 3);
        refused("2 machine full", FULL, () -> x.machine(0, 1, 1, 0));
        for (int[] b : bad) {
            refused("2 machine bad, full", BAD, () -> x.machine(b[0], b[1], b[2], b[3]));
        }
        is("2 KIND", x.of(1, 0), 5);
        is("2 CELLS", x.of(1, 1), 6);
        is("2 TAPS", x.of(1, 2), 63);
        is("2 STATE", x.of(1, 3), 63);
    }

    private void drop() {
        fresh();
        refused("3 drop none", STATE, () -> x.drop());
        x.machine(0, 1, 1, 1);
        x.machine(1, 2, 2, 2);
        is("3 drop", x.drop(), 1);
        is("3 of dropped", x.of(1, 0), -1000);
        is("3 of left", x.of(0, 0), 0);
        is("3 machine", x.machine(2, 3, 4, 5), 1);
        is("3 KIND", x.of(1, 0), 2);
        is("3 drop", x.drop(), 1);
        is("3 drop", x.drop(), 0);
        refused("3 drop none", STATE, () -> x.drop());
    }

    private void set() {
        fresh();
        refused("4 set without machines", -1000, () -> x.set(0, 0, 0));
        x.machine(0, 3, 5, 3);
        is("4 set STATE", x.set(0, 0, 7), 3);
        is("4 set STATE", x.set(0, 0, 0), 7);
        is("4 set STATE", x.set(0, 0, 6), 0);
        is("4 set CARRY", x.set(0, 1, -9), 0);
        is("4 set CARRY", x.set(0, 1, 9), -9);
        is("4 set CARRY", x.set(0, 1, -2), 9);
        is("4 set TAPS", x.set(0, 2, 1), 5);
        is("4 MADE", x.of(0, 5), 132);
        is("4 set TAPS", x.set(0, 2, 7), 1);
        is("4 MADE", x.of(0, 5), 13);
        for (int k = 1; k <= 5; k++) {
            is("4 set KIND", x.set(0, 3, k), k - 1);
            stands(0, 6, -2);
        }
        is("4 set KIND, the same again", x.set(0, 3, 5), 5);
        stands(0, 6, -2);
        int[][] bad = {
            {-1, 0, 0}, {1, 0, 0}, {MAX, 0, 0}, {MIN, 0, 0}, {0, -1, 1}, {0, 4, 1}, {0, MAX, 1}, {0, 0, -1}, {0, 0, 8}, {0, 1, -10},
            {0, 1, 10}, {0, 1, MIN}, {0, 2, 0}, {0, 2, 8}, {0, 2, -1}, {0, 3, -1}, {0, 3, 6}, {0, 3, MAX}
        };
        for (int[] b : bad) {
            refused("4 set bad", -1000, () -> x.set(b[0], b[1], b[2]));
        }
    }

    private void of() {
        fresh();
        int[] made = {13, 134, 1345, 136, 137, 138};
        int[] madeOfOneTap = {132, 1324, 13245, 1326, 1327, 1328};
        for (int kind = 0; kind < 6; kind++) {
            fresh();
            x.machine(kind, 4, 6, 9);
            x.machine(kind, 6, 1, 0);
            int k = kind;
            int[] due0 = {k, 4, 6, 9, 0, made[k], 8 + 4 - 1};
            int[] due1 = {k, 6, 1, 0, 0, madeOfOneTap[k], 63};
            for (int what = 0; what < 7; what++) {
                int w = what;
                asked("5 of(0, " + w + ")", due0[w], () -> x.of(0, w));
                asked("5 of(1, " + w + ")", due1[w], () -> x.of(1, w));
            }
        }
        x.machine(0, 6, 63, 0);
        is("5 LINKS of all taps", x.of(2, 6), 125);
        x.machine(0, 6, 32, 0);
        is("5 LINKS of the last tap", x.of(3, 6), 1);
        refused("5 of machine", -1000, () -> x.of(4, 0));
        refused("5 of machine", -1000, () -> x.of(-1, 0));
        refused("5 of what", -1000, () -> x.of(0, -1));
        refused("5 of what", -1000, () -> x.of(0, 7));
    }

    private void taken() {
        String[] under = {"100000", "110000", "111000", "100100", "100010", "100001"};
        for (int kind = 0; kind < 6; kind++) {
            fresh();
            x.machine(kind, 3, 6, 1);
            for (int k = 0; k < 6; k++) {
                int as = k;
                asked("6 taken " + kind + " for " + k, under[kind].charAt(k) == '1' ? 6 : -13, () -> x.taken(0, as));
            }
        }
        refused("6 taken machine", BAD, () -> x.taken(1, 0));
        refused("6 taken machine", BAD, () -> x.taken(-1, 0));
        refused("6 taken k", BAD, () -> x.taken(0, 6));
        refused("6 taken k", BAD, () -> x.taken(0, -1));
    }

    /** One step of three cells, 0 and 2 tapped, both 1: FED is 2. */
    private void oneStep(int kind, int carry, int state, int carried) {
        fresh();
        x.machine(kind, 3, 5, 5);
        x.set(0, 1, carry);
        is("7 step of KIND " + kind, x.step(0, 1), 1);
        stands(0, state, carried);
    }

    private void step() {
        oneStep(0, 1, 6, 1);
        oneStep(0, -3, 6, -1);
        oneStep(0, -9, 6, -4);
        oneStep(0, 9, 6, 5);
        oneStep(1, -3, 2, -3);
        oneStep(2, -3, 6, -3);
        oneStep(3, -3, 6, -3);
        oneStep(3, 0, 2, -1);
        oneStep(4, 9, 6, 1);
        oneStep(4, -9, 6, -4);
        oneStep(5, -9, 0, 7);
        oneStep(5, 0, 7, 0);
        fresh();
        x.machine(1, 3, 3, 1);
        // 1, 0, 0 and on by each bit's being that 3 ahead and that 2 ahead: 1001011 again and again.
        is("7 step", x.step(0, 7), 0b1101001);
        stands(0, 1, 0);
        is("7 step", x.step(0, 30), 0b01_1101001_1101001_1101001_1101001);
        refused("7 step n", BAD, () -> x.step(0, 0));
        refused("7 step n", BAD, () -> x.step(0, 31));
        refused("7 step n", BAD, () -> x.step(0, MIN));
        refused("7 step machine", BAD, () -> x.step(1, 1));
        refused("7 step machine", BAD, () -> x.step(-1, 1));
    }

    private void then() {
        fresh();
        x.machine(0, 1, 1, 1);
        x.set(0, 1, 1);
        int[][] due = {{1, 1, 1}, {0, 0, 1}, {1, 1, 0}, {1, 1, 0}};
        for (int n = 0; n < 4; n++) {
            for (int what = 0; what < 3; what++) {
                int behind = n, w = what;
                asked("8 then", due[n][what], () -> x.then(0, behind, w));
            }
        }
        asked("8 then 40", 1, () -> x.then(0, 40, 1));
        refused("8 then n", -1000, () -> x.then(0, 41, 1));
        refused("8 then n", -1000, () -> x.then(0, -1, 1));
        refused("8 then what", -1000, () -> x.then(0, 0, 3));
        refused("8 then what", -1000, () -> x.then(0, 0, -1));
        refused("8 then machine", -1000, () -> x.then(1, 0, 0));
        refused("8 then machine", -1000, () -> x.then(-1, 0, 0));
    }

    private void film() {
        fresh();
        x.machine(1, 3, 3, 1);
        is("9 film", x.film(3, 0, 7), 7);
        stands(0, 1, 0);
        is("9 NUMBER", x.number(3), 0b1101001);
        is("9 shorts", x.load(3, 0, 0, 0), 0);
        is("9 size", x.put(3, 7, 0), -12);
        is("9 ints before", x.sheet(2, 1, 20), 1);
        is("9 film", x.film(2, 0, 40), 40);
        is("9 shorts", x.load(2, 0, 0, 0), 0);
        is("9 size", x.put(2, 39, 0), 1);
        is("9 film none", x.film(2, 0, 0), 0);
        is("9 NUMBER", x.number(2), 0);
        is("9 size", x.put(2, 0, 0), -12);
        refused("9 film sheet", BAD, () -> x.film(4, 0, 1));
        refused("9 film sheet", BAD, () -> x.film(-1, 0, 1));
        refused("9 film machine", BAD, () -> x.film(3, 1, 1));
        refused("9 film n", BAD, () -> x.film(3, 0, 41));
        refused("9 film n", BAD, () -> x.film(3, 0, -1));
    }

    private void mix() {
        fresh();
        // Cells told one behind the other: 1 1 0 .., 1 0 1 .., 1 1 1 ..
        x.machine(1, 3, 1, 3);
        x.machine(1, 3, 1, 5);
        x.machine(1, 3, 1, 7);
        is("10 mix, carried", x.mix(0, 7, 3, 1), 3);
        is("10 NUMBER", x.number(0), (3 + 5 + 7) % 8);
        is("10 mix, not carried", x.mix(0, 7, 3, 0), 3);
        is("10 NUMBER", x.number(0), 3 ^ 5 ^ 7);
        is("10 mix of one", x.mix(0, 2, 3, 1), 3);
        is("10 NUMBER", x.number(0), 5);
        is("10 mix of two", x.mix(0, 5, 3, 1), 3);
        is("10 NUMBER", x.number(0), 3 + 7 - 8);
        is("10 mix of none", x.mix(0, 0, 40, 1), 40);
        is("10 NUMBER", x.number(0), 0);
        is("10 shorts", x.load(0, 0, 0, 0), 0);
        is("10 mix no steps", x.mix(1, 7, 0, 0), 0);
        is("10 NUMBER", x.number(1), 0);
        stands(0, 3, 0);
        refused("10 mix sheet", BAD, () -> x.mix(4, 1, 1, 1));
        refused("10 mix set", BAD, () -> x.mix(0, 8, 1, 1));
        refused("10 mix set", BAD, () -> x.mix(0, -1, 1, 1));
        refused("10 mix set", BAD, () -> x.mix(0, MIN, 1, 1));
        refused("10 mix n", BAD, () -> x.mix(0, 1, 41, 1));
        refused("10 mix n", BAD, () -> x.mix(0, 1, -1, 1));
        refused("10 mix is", BAD, () -> x.mix(0, 1, 1, 2));
        refused("10 mix is", BAD, () -> x.mix(0, 1, 1, -1));
    }

    private void number() {
        fresh();
        refused("11 number missing", NO, () -> x.number(0));
        refused("11 number sheet", NO, () -> x.number(4));
        refused("11 number sheet", NO, () -> x.number(-1));
        row(0, 1, 0, -1, 4, 7);
        asked("11 number", 1 + 4 + 16, () -> x.number(0));
        x.sheet(1, 1, 40);
        x.put(1, 39, MAX);
        asked("11 number", 1L << 39, () -> x.number(1));
        x.sheet(1, 1, 0);
        asked("11 number", 0, () -> x.number(1));
    }

    private void expand() {
        fresh();
        is("12 expand", x.expand(0, 1, 3, 6), 6);
        is("12 NUMBER", x.number(0), 0b101011);
        is("12 shorts", x.load(0, 0, 0, 0), 0);
        is("12 expand", x.expand(0, -1, 1, 40), 40);
        is("12 NUMBER", x.number(0), (1L << 40) - 1);
        is("12 expand", x.expand(0, 9999, 1, 40), 40);
        is("12 NUMBER", x.number(0), 9999);
        is("12 expand", x.expand(0, -9999, 9999, 3), 3);
        is("12 NUMBER", x.number(0), 7);
        is("12 expand", x.expand(0, 5, 7, 0), 0);
        is("12 NUMBER", x.number(0), 0);
        refused("12 expand even", STATE, () -> x.expand(0, 1, 2, 1));
        refused("12 expand even", STATE, () -> x.expand(0, 1, 9998, 1));
        int[][] bad = {
            {4, 1, 2, 1}, {-1, 1, 2, 1}, {0, 1, 2, 41}, {0, 1, 2, -1}, {0, 10000, 2, 1}, {0, -10000, 2, 1}, {0, 1, 0, 1}, {0, 1, -2, 1},
            {0, 1, 10000, 1}, {0, MIN, 1, 1}, {0, 1, MIN, 1}
        };
        for (int[] b : bad) {
            refused("12 expand bad", BAD, () -> x.expand(b[0], b[1], b[2], b[3]));
        }
    }

    private void period() {
        fresh();
        int[][] due = {{1, 3, 2, 1}, {0, 1, 1, 0}, {-1, 1, 1, 0}, {1, 1, 1, 1}, {2, 1, 1, 2}, {-3, 3, 1, 0}, {-1, 7, 3, 0}, {-2, 1, 1, 1}};
        for (int[] d : due) {
            asked("13 PERIOD", d[2], () -> x.period(d[0], d[1], 0));
            asked("13 AHEAD", d[3], () -> x.period(d[0], d[1], 1));
        }
        refused("13 period even", STATE, () -> x.period(1, 4, 0));
        int[][] bad = {{1, 4, 2}, {1, 4, -1}, {10000, 4, 0}, {-10000, 4, 0}, {1, 0, 0}, {1, -1, 0}, {1, 10000, 0}, {MIN, MIN, 0}};
        for (int[] b : bad) {
            refused("13 period bad", BAD, () -> x.period(b[0], b[1], b[2]));
        }
    }

    private void leastIs(int sheet, long p, long q, long size, int span) {
        long[] due = {p, q, size, span};
        for (int what = 0; what < 4; what++) {
            int w = what;
            asked("14 fraction(" + sheet + ", " + what + ")", due[what], () -> x.fraction(sheet, w));
        }
    }

    private void fraction() {
        fresh();
        refused("14 fraction missing", NO, () -> x.fraction(0, 0));
        row(0, 1, 1, 0);
        leastIs(0, 3, 1, 3, 2);
        row(0, 1, 1, 0, 1, 0);
        leastIs(0, 1, 3, 3, 2);
        row(0);
        leastIs(0, -1, 1, 1, 1);
        row(0, 0);
        leastIs(0, 0, 1, 1, 1);
        row(0, 1);
        leastIs(0, -1, 1, 1, 1);
        row(0, 0, 1);
        leastIs(0, -2, 1, 2, 2);
        x.sheet(1, 1, 24);
        x.put(1, 23, 1);
        leastIs(1, -(1 << 23), 1, 1 << 23, 24);
        x.put(1, 0, 1);
        // (1 + 2 to the 23) times q less 2 to the 23: p is q less that; half of it is the least.
        leastIs(1, -(1 << 22) - 1, (1 << 22) - 1, (1 << 22) + 1, 23);
        x.sheet(1, 0, 25);
        refused("14 fraction long", NO, () -> x.fraction(1, 0));
        refused("14 fraction what", NO, () -> x.fraction(0, 4));
        refused("14 fraction what", NO, () -> x.fraction(0, -1));
        refused("14 fraction sheet", NO, () -> x.fraction(4, 0));
        refused("14 fraction sheet", NO, () -> x.fraction(-1, 0));
    }

    private void told() {
        fresh();
        refused("15 told none", NO, () -> x.told(0, 0));
        x.machine(0, 1, 1, 1);
        asked("15 told above", -1, () -> x.told(0, 0));
        asked("15 told below", 1, () -> x.told(0, 1));
        x.set(0, 1, 1);
        asked("15 told above", -3, () -> x.told(0, 0));
        x.set(0, 1, -9);
        asked("15 told above", 17, () -> x.told(0, 0));
        x.machine(0, 3, 5, 3);
        asked("15 told above", 1, () -> x.told(1, 0));
        asked("15 told below", 3, () -> x.told(1, 1));
        x.set(1, 0, 0);
        asked("15 told 0", 0, () -> x.told(1, 0));
        asked("15 told 0 below", 1, () -> x.told(1, 1));
        refused("15 told part", NO, () -> x.told(0, 2));
        refused("15 told part", NO, () -> x.told(0, -1));
        refused("15 told machine", NO, () -> x.told(2, 0));
        refused("15 told machine", NO, () -> x.told(-1, 0));
        for (int kind = 1; kind < 6; kind++) {
            x.set(0, 3, kind);
            refused("15 told KIND", NO, () -> x.told(0, 0));
        }
        // A carry that a RING leaves is far above 9.
        fresh();
        x.machine(5, 6, 63, 63);
        x.step(0, 1);
        is("15 CARRY of a RING", x.of(0, 4), 31);
        x.set(0, 3, 0);
        x.set(0, 0, 0);
        asked("15 told above", -31 * 64, () -> x.told(0, 0) * (125 / x.told(0, 1)));
    }

    private void build() {
        fresh();
        refused("16 build missing", -11, () -> x.build(0));
        refused("16 build sheet", BAD, () -> x.build(4));
        refused("16 build sheet", BAD, () -> x.build(-1));
        x.sheet(1, 0, 25);
        refused("16 build long", BAD, () -> x.build(1));
        x.expand(0, -50, 127, 24);
        refused("16 build of 7 cells", STATE, () -> x.build(0));
        builtWhole(18, 0, -9);
        builtWhole(-19, 1, 9);
        builtWhole(-18, 0, 9);
        x.expand(0, 19, 1, 24);
        refused("16 build of carry -10", STATE, () -> x.build(0));
        x.expand(0, -20, 1, 24);
        refused("16 build of carry 10", STATE, () -> x.build(0));
        x.expand(0, 5, 7, 24);
        is("16 build", x.build(0), 0);
        is("16 CELLS", x.of(0, 1), 3);
        is("16 LINKS", x.of(0, 6), 7);
        is("16 MADE", x.of(0, 5), 132);
        stands(0, 3, -1);
        x.expand(0, 99, 125, 24);
        is("16 build", x.build(0), 1);
        is("16 TAPS", x.of(1, 2), 63);
        is("16 TOLD", x.told(1, 0), 99);
        x.machine(0, 1, 1, 1);
        x.machine(0, 1, 1, 1);
        refused("16 build full", FULL, () -> x.build(0));
        x.expand(0, 19, 1, 24);
        refused("16 build full, carry -10", FULL, () -> x.build(0));
        refused("16 build long, full", BAD, () -> x.build(1));
        refused("16 build missing, full", -11, () -> x.build(2));
    }

    private void builtWhole(int p, int state, int carry) {
        x.expand(0, p, 1, 24);
        is("16 build", x.build(0), 0);
        is("16 TAPS", x.of(0, 2), 1);
        stands(0, state, carry);
        is("16 replays", x.replays(0, 0, 0), NONE);
        x.drop();
    }

    private void cycle() {
        fresh();
        refused("17 cycle none", BAD, () -> x.cycle(0, 0));
        x.machine(0, 1, 1, 1);
        asked("17 PERIOD", 1, () -> x.cycle(0, 0));
        asked("17 AHEAD", 0, () -> x.cycle(0, 1));
        x.set(0, 1, 1);
        asked("17 PERIOD", 1, () -> x.cycle(0, 0));
        asked("17 AHEAD", 2, () -> x.cycle(0, 1));
        x.machine(1, 6, 3, 1);
        asked("17 PERIOD", 63, () -> x.cycle(1, 0));
        asked("17 AHEAD", 0, () -> x.cycle(1, 1));
        x.machine(1, 4, 8, 1);
        asked("17 PERIOD of what runs out", 1, () -> x.cycle(2, 0));
        asked("17 AHEAD of what runs out", 1, () -> x.cycle(2, 1));
        refused("17 cycle machine", BAD, () -> x.cycle(3, 0));
        refused("17 cycle machine", BAD, () -> x.cycle(-1, 0));
        refused("17 cycle what", BAD, () -> x.cycle(0, 2));
        refused("17 cycle what", BAD, () -> x.cycle(0, -1));
    }

    private void lawIs(long cells, long law, int... row) {
        row(0, row);
        asked("18 L", cells, () -> x.linear(0, 0));
        asked("18 LAW", law, () -> x.linear(0, 1));
    }

    private void linear() {
        fresh();
        refused("18 linear missing", NO, () -> x.linear(0, 0));
        lawIs(0, 0);
        lawIs(0, 0, 0, 0, 0);
        lawIs(1, NONE, 1);
        lawIs(1, 1, 1, 1);
        lawIs(1, 0, 1, 0);
        lawIs(1, 0, 1, 0, 0);
        lawIs(2, NONE, 0, 1);
        lawIs(2, NONE, 1, 0, 1);
        lawIs(2, 2, 1, 0, 1, 0);
        lawIs(3, NONE, 0, 0, 1);
        lawIs(3, NONE, 1, 0, 0, 1, 0);
        lawIs(3, 6, 1, 0, 0, 1, 0, 1);
        x.sheet(1, 0, 40);
        x.put(1, 39, 1);
        asked("18 L of 40", 40, () -> x.linear(1, 0));
        asked("18 LAW of 40", NONE, () -> x.linear(1, 1));
        x.put(1, 39, 0);
        x.put(1, 19, 1);
        asked("18 L of 40", 20, () -> x.linear(1, 0));
        asked("18 LAW of 40", 0, () -> x.linear(1, 1));
        x.put(1, 39, 1);
        asked("18 LAW of 40", 1 << 19, () -> x.linear(1, 1));
        refused("18 linear what", NO, () -> x.linear(0, 2));
        refused("18 linear what", NO, () -> x.linear(0, -1));
        refused("18 linear sheet", NO, () -> x.linear(4, 0));
        refused("18 linear sheet", NO, () -> x.linear(-1, 0));
    }

    private void twin() {
        fresh();
        refused("19 twin none", NO, () -> x.twin(0, 0, 0));
        x.machine(1, 3, 3, 1);
        asked("19 L", 3, () -> x.twin(0, 6, 0));
        asked("19 LAW", 6, () -> x.twin(0, 6, 1));
        asked("19 LAW", NONE, () -> x.twin(0, 5, 1));
        asked("19 L", 3, () -> x.twin(0, 40, 0));
        asked("19 LAW", 6, () -> x.twin(0, 40, 1));
        asked("19 L of nothing", 0, () -> x.twin(0, 0, 0));
        asked("19 LAW of nothing", 0, () -> x.twin(0, 0, 1));
        refused("19 twin machine", NO, () -> x.twin(1, 0, 0));
        refused("19 twin n", NO, () -> x.twin(0, 41, 0));
        refused("19 twin n", NO, () -> x.twin(0, -1, 0));
        refused("19 twin what", NO, () -> x.twin(0, 0, 2));
        refused("19 twin what", NO, () -> x.twin(0, 0, -1));
    }

    private void compare() {
        fresh();
        refused("20 compare sheet", -1000, () -> x.compare(4));
        refused("20 compare sheet", -1000, () -> x.compare(-1));
        refused("20 compare missing", -1011, () -> x.compare(0));
        x.sheet(0, 1, 25);
        refused("20 compare long", -1000, () -> x.compare(0));
        x.sheet(0, 1, 24);
        asked("20 compare", 1, () -> x.compare(0));
        x.put(0, 23, 1);
        asked("20 compare", 0, () -> x.compare(0));
        x.expand(0, 99, 125, 24);
        asked("20 compare", 7 - 12, () -> x.compare(0));
    }

    private void windows() {
        fresh();
        refused("21 windows missing", -11, () -> x.windows(0, 1, 0));
        row(0, 1, 0, 1, 0, 1);
        int[][] due = {{1, 2, 1, 3}, {2, 2, 1, 2}, {3, 2, 5, 2}, {4, 2, 5, 1}, {5, 1, 21, 1}, {6, 0, NONE, NONE}, {8, 0, NONE, NONE}};
        for (int[] d : due) {
            for (int what = 0; what < 3; what++) {
                int w = what;
                asked("21 windows(0, " + d[0] + ", " + what + ")", d[1 + what], () -> x.windows(0, d[0], w));
            }
        }
        row(0, 0, 1, 1, 0, 0, 1, 0, 0);
        asked("21 most often", 0b10, () -> x.windows(0, 2, 1));
        row(0, 1, 1, 0, 0, 1, 1, 0, 0);
        asked("21 of like ones the first", 0b11, () -> x.windows(0, 2, 1));
        refused("21 windows w", BAD, () -> x.windows(0, 0, 0));
        refused("21 windows w", BAD, () -> x.windows(0, 9, 0));
        refused("21 windows what", BAD, () -> x.windows(0, 1, 3));
        refused("21 windows what", BAD, () -> x.windows(0, 1, -1));
        refused("21 windows sheet", BAD, () -> x.windows(4, 1, 0));
        refused("21 windows sheet", BAD, () -> x.windows(-1, 1, 0));
        refused("21 windows missing, w", BAD, () -> x.windows(1, 0, 0));
        refused("21 windows missing, what", BAD, () -> x.windows(1, 1, 3));
    }

    private void runs() {
        fresh();
        refused("22 runs missing", -11, () -> x.runs(0, 0, 0));
        row(0, 1, 1, 0, 1, 1, 1, 0);
        asked("22 runs", 2, () -> x.runs(0, 0, 1));
        asked("22 runs", 1, () -> x.runs(0, 1, 2));
        asked("22 runs", 1, () -> x.runs(0, 1, 3));
        asked("22 runs", 0, () -> x.runs(0, 1, 1));
        asked("22 runs", 0, () -> x.runs(0, 0, 0));
        asked("22 runs", 0, () -> x.runs(0, 0, -1));
        asked("22 runs", 0, () -> x.runs(0, 0, MAX));
        asked("22 unlike", 3, () -> x.runs(0, NONE, 0));
        asked("22 unlike", 3, () -> x.runs(0, NONE, MIN));
        x.sheet(0, 1, 40);
        asked("22 runs of 40", 1, () -> x.runs(0, 0, 40));
        asked("22 unlike of 40", 1, () -> x.runs(0, NONE, 0));
        refused("22 runs bit", BAD, () -> x.runs(0, 2, 1));
        refused("22 runs bit", BAD, () -> x.runs(0, -2, 1));
        refused("22 runs sheet", BAD, () -> x.runs(4, 0, 1));
        refused("22 runs missing, bit", BAD, () -> x.runs(1, 2, 1));
    }

    private void replays() {
        fresh();
        row(0, 1, 1, 1);
        refused("23 replays none", BAD, () -> x.replays(0, 0, 0));
        x.machine(0, 1, 1, 1);
        asked("23 replays", NONE, () -> x.replays(0, 0, 0));
        asked("23 KINDS", 1 + 2 + 16 + 32, () -> x.replays(0, 0, 1));
        asked("23 CARRIES -8, -4, 0, 4, 8", 1 << 1 | 1 << 5 | 1 << 9 | 1 << 13 | 1 << 17, () -> x.replays(0, 0, 2));
        row(1, 1, 1, 0);
        asked("23 otherwise", 2, () -> x.replays(0, 1, 0));
        row(1, 0);
        asked("23 otherwise", 0, () -> x.replays(0, 1, 0));
        asked("23 KINDS", 0, () -> x.replays(0, 1, 1));
        asked("23 CARRIES", 0, () -> x.replays(0, 1, 2));
        row(1);
        asked("23 nothing", NONE, () -> x.replays(0, 1, 0));
        asked("23 KINDS", 63, () -> x.replays(0, 1, 1));
        asked("23 CARRIES", (1 << 19) - 1, () -> x.replays(0, 1, 2));
        refused("23 replays missing", -11, () -> x.replays(0, 2, 0));
        refused("23 replays missing, machine", BAD, () -> x.replays(1, 2, 0));
        refused("23 replays missing, what", BAD, () -> x.replays(0, 2, 3));
        refused("23 replays sheet", BAD, () -> x.replays(0, 4, 0));
        refused("23 replays what", BAD, () -> x.replays(0, 0, -1));
    }

    private void search() {
        fresh();
        refused("24 search missing", -11, () -> x.search(0, 0, 1));
        row(0, 1, 1, 1);
        asked("24 search", 100 - 8 + 9, () -> x.search(0, 0, 1));
        asked("24 search of as many", 100, () -> x.search(0, 0, 3));
        asked("24 search of a RING", 101, () -> x.search(0, 5, 1));
        row(0, 1, 0);
        asked("24 search none", NONE, () -> x.search(0, 1, 1));
        row(0, 1, 0, 0, 1, 0, 1, 1);
        asked("24 search LINEAR", 300, () -> x.search(0, 1, 3));
        x.sheet(2, 0, 5);
        refused("24 search short", STATE, () -> x.search(2, 0, 6));
        asked("24 search of as many", 100, () -> x.search(2, 0, 5));
        refused("24 search short, kind", BAD, () -> x.search(2, 6, 6));
        refused("24 search kind", BAD, () -> x.search(0, 6, 1));
        refused("24 search kind", BAD, () -> x.search(0, -1, 1));
        refused("24 search cells", BAD, () -> x.search(0, 0, 0));
        refused("24 search cells", BAD, () -> x.search(0, 0, 7));
        refused("24 search sheet", BAD, () -> x.search(4, 0, 1));
        refused("24 search missing, cells", BAD, () -> x.search(1, 0, 7));
    }

    private void alike() {
        fresh();
        refused("25 alike none", BAD, () -> x.alike(0, 0));
        x.machine(0, 1, 1, 1);
        x.machine(2, 1, 1, 1);
        x.machine(1, 3, 1, 7);
        x.machine(3, 1, 1, 1);
        asked("25 alike", 15, () -> x.alike(0, 0));
        asked("25 alike", 15, () -> x.alike(2, 1));
        asked("25 alike", 1 + 4 + 8, () -> x.alike(0, 2));
        asked("25 alike", 1 + 4, () -> x.alike(0, 3));
        asked("25 alike", 1 + 4, () -> x.alike(2, 40));
        asked("25 alike", 2, () -> x.alike(1, 40));
        refused("25 alike n", BAD, () -> x.alike(0, 41));
        refused("25 alike n", BAD, () -> x.alike(0, -1));
        refused("25 alike machine", BAD, () -> x.alike(4, 0));
        refused("25 alike machine", BAD, () -> x.alike(-1, 0));
    }

    private void drawn() {
        fresh();
        refused("26 drawn missing", -11, () -> x.drawn(0, 0, 0));
        x.sheet(0, 0, 0);
        refused("26 drawn no bits", STATE, () -> x.drawn(0, 0, 0));
        x.sheet(0, 0, 5);
        asked("26 drawn", 0, () -> x.drawn(0, 0, 0));
        // 12345 >>> 9 is 24: bit 4; 1103527590 >>> 9 is 2155327: bit 2.
        asked("26 drawn", 5, () -> x.drawn(0, 0, 1));
        asked("26 drawn", 3, () -> x.drawn(0, 1, 1));
        refused("26 drawn n", BAD, () -> x.drawn(0, 0, 9));
        refused("26 drawn n", BAD, () -> x.drawn(0, 0, -1));
        refused("26 drawn sheet", BAD, () -> x.drawn(4, 0, 0));
        refused("26 drawn missing, n", BAD, () -> x.drawn(1, 0, 9));
        x.sheet(0, 0, 0);
        refused("26 drawn no bits, n", BAD, () -> x.drawn(0, 0, 9));
    }

    private void chance() {
        fresh();
        refused("27 chance missing", -11, () -> x.chance(0, 0, 1, 0, 0, 0));
        x.sheet(0, 0, 0);
        refused("27 chance no bits", STATE, () -> x.chance(0, 0, 1, 0, 0, 0));
        x.sheet(0, 0, 5);
        int[][] due = {{2, 0, 1}, {3, 1, 2}, {4, 1, 2}, {5, 1, 1}, {40, 1, 1}, {0, 0, 1}};
        for (int[] d : due) {
            asked("27 above", d[1], () -> x.chance(0, 0, 2, 1, d[0], 0));
            asked("27 below", d[2], () -> x.chance(0, 0, 2, 1, d[0], 1));
        }
        asked("27 unspoilt", 1, () -> x.chance(0, MAX, 20, 0, 0, 0));
        int[][] bad = {
            {4, 1, 0, 0, 0}, {-1, 1, 0, 0, 0}, {0, 0, 0, 0, 0}, {0, 21, 0, 0, 0}, {0, 1, 9, 0, 0}, {0, 1, -1, 0, 0}, {0, 1, 0, 41, 0},
            {0, 1, 0, -1, 0}, {0, 1, 0, 0, 2}, {0, 1, 0, 0, -1}, {1, 0, 0, 0, 0}, {1, 1, 0, 0, 2}
        };
        for (int[] b : bad) {
            refused("27 chance bad", BAD, () -> x.chance(b[0], 0, b[1], b[2], b[3], b[4]));
        }
    }

    private void feed() {
        fresh();
        is("28 feed", x.feed(1, 255, 0, 255, 0, 255), 1);
        is("28 feed", x.feed(5, 0, 0, 0, 0, 0), 6);
        refused("28 feed n", BAD, () -> x.feed(0, 1, 1, 1, 1, 1));
        refused("28 feed n", BAD, () -> x.feed(6, 1, 1, 1, 1, 1));
        for (int i = 0; i < 5; i++) {
            int[] v = new int[5];
            v[i] = 256;
            refused("28 feed byte " + i, BAD, () -> x.feed(1, v[0], v[1], v[2], v[3], v[4]));
            v[i] = -1;
            refused("28 feed byte " + i, BAD, () -> x.feed(1, v[0], v[1], v[2], v[3], v[4]));
        }
        for (int size = 11; size <= 56; size += 5) {
            is("28 feed", x.feed(5, 0, 0, 0, 0, 0), size);
        }
        refused("28 feed full", FULL, () -> x.feed(5, 1, 1, 1, 1, 1));
        refused("28 feed full, bad", BAD, () -> x.feed(5, 1, 1, 1, 1, 256));
        is("28 feed", x.feed(4, 0, 0, 0, 0, 0), 60);
        refused("28 feed full", FULL, () -> x.feed(1, 1, 1, 1, 1, 1));
        is("28 bytes", x.count(1), 60);
        fresh();
        is("28 in order", x.feed(4, 'd', 'r', 'o', 'p', ';'), 4);
        is("28 in order", x.text(), 0);
    }

    private void saying(String text, int want) {
        say(text);
        is("29 text \"" + text.replace("\n", "\\n") + "\"", x.text(), want);
        is("29 tape behind it", x.count(1), 0);
    }

    private void text() {
        fresh();
        saying("machine 0 3 5 3", 1);
        saying("state0 7;carry 0-9 ; \ntaps\n0 1", 3);
        is("29 TAPS", x.of(0, 2), 1);
        stands(0, 7, -9);
        saying("step 0 1", 1);
        stands(0, 3, -4);
        saying("step 0 0;step 0 31;step 1 1;state 0 8;carry 0 10;taps 0 0", 0);
        stands(0, 3, -4);
        saying("machine 6 1 1 0;machine 1 1 1 -0;machine 1 01 1 0", 2);
        saying("machine 5 1 1 1;machine 0 1 1 1;machine 0 1 1 1", 1);
        is("29 machines", x.count(0), 4);
        saying("drop;drop;drop;drop;drop;drop;drop;drop;drop;drop;drop;drop", 4);
        is("29 machines", x.count(0), 0);
        saying("machine 0 1 1 1;drop;machine 2 2 3 1;state 0 3;carry 0 -1", 5);
        is("29 KIND", x.of(0, 0), 2);
    }

    private void textFaults() {
        fresh();
        saying("", -100);
        saying("  \n", -103);
        saying(";", -100);
        saying("drop;", -105);
        saying("drop; ", -106);
        saying("drop;drop;drop;drop;drop;drop;drop;drop;drop;drop;drop;drop;", -160);
        saying("drop;;drop", -105);
        saying(" drop 1", -106);
        saying("drop drop", -105);
        saying("dropdrop", -100);
        saying("Drop", -100);
        saying("dro", -100);
        saying("xrop", -100);
        saying("dropz", -100);
        saying("dropa", -100);
        saying("drop\t;drop", -104);
        saying("machine 0 1 1", -113);
        saying("machine 0 1 1 ", -114);
        saying("machine 0 1 1;", -113);
        saying("machine 0 1 1 1 1", -116);
        saying("machine 0 1 1 x", -114);
        saying("step 0 100", -107);
        saying("step 0 -100", -107);
        saying("step 0 0001", -107);
        saying("step 0 -", -107);
        saying("step 0 - 1", -107);
        saying("step 0 --1", -107);
        saying("12", -100);
        saying("step step", -105);
        saying("machine 0 1 1 1;x", -116);
        is("29 none came by a fault", x.count(0), 0);
        saying("\0", -100);
        saying("drop" + (char) 255, -104);
    }

    private void image() {
        fresh();
        is("30 image", x.image(), 0);
        is("30 back", x.back(), 0);
        x.machine(0, 3, 5, 3);
        x.machine(5, 4, 9, 7);
        x.set(1, 1, -9);
        is("30 image", x.image(), 2);
        x.machine(1, 1, 1, 1);
        is("30 image, kept anew", x.image(), 3);
        is("30 back", x.back(), 3);
        stands(1, 7, -9);
    }

    private void back() {
        fresh();
        x.machine(0, 3, 5, 3);
        refused("31 back none", STATE, () -> x.back());
        x.set(0, 1, 2);
        x.image();
        String kept = machinesOf(x);
        x.step(0, 5);
        x.set(0, 3, 2);
        x.set(0, 2, 1);
        x.machine(1, 1, 1, 1);
        is("31 back", x.back(), 1);
        due.holds("31 as it was", kept.equals(machinesOf(x)));
        x.step(0, 5);
        x.set(0, 0, 0);
        x.drop();
        is("31 back again", x.back(), 1);
        due.holds("31 as it was, again", kept.equals(machinesOf(x)));
        row(0, 1, 1);
        x.feed(1, 'x', 0, 0, 0, 0);
        is("31 back", x.back(), 1);
        is("31 a sheet stays", x.number(0), 3);
        is("31 the tape stays", x.count(1), 1);
    }

    private void load() {
        fresh();
        refused("32 load missing", -11, () -> x.load(0, 0, 0, 0));
        refused("32 load missing", -11, () -> x.load(0, 1, 99, 4));
        row(0, 9, 5, 3, 3, 2, 2, 6, 1, 1, 0, 3, 1, 7);
        refused("32 load unlike", -13, () -> x.load(0, 1, 0, 0));
        refused("32 load unlike", -13, () -> x.load(0, 1, 99, 1));
        refused("32 load sort", BAD, () -> x.load(0, 2, 0, 0));
        refused("32 load sort", BAD, () -> x.load(0, -1, 0, 0));
        refused("32 load n", BAD, () -> x.load(0, 0, 0, 5));
        refused("32 load n", BAD, () -> x.load(0, 0, 0, -1));
        refused("32 load sheet", BAD, () -> x.load(4, 0, 0, 0));
        refused("32 load missing, n", BAD, () -> x.load(1, 0, 0, 5));
        refused("32 load outside", -12, () -> x.load(0, 0, -1, 1));
        refused("32 load outside", -12, () -> x.load(0, 0, 10, 1));
        refused("32 load outside", -12, () -> x.load(0, 0, MAX, 4));
        refused("32 load outside", -12, () -> x.load(0, 0, MIN, 4));
        refused("32 load nothing", 0, () -> x.load(0, 0, 99, 0));
        is("32 load", x.load(0, 0, 1, 3), 3);
        is("32 KIND", x.of(0, 0), 5);
        is("32 CELLS", x.of(1, 1), 6);
        is("32 STATE", x.of(2, 3), 7);
        is("32 load, what is ahead comes", x.load(0, 0, 9, 2), -12);
        is("32 machines", x.count(0), 4);
        is("32 load, full", x.load(0, 0, 1, 3), 0);
        is("32 load, full and outside", x.load(0, 0, 1, 4), -12);
        fresh();
        is("32 ints", x.sheet(0, 1, 8), 1);
        int[] v = {0, 3, 70003, 1, 5, 1, 1, 1};
        for (int i = 0; i < 8; i++) {
            x.put(0, i, v[i]);
        }
        is("32 load, one left out", x.load(0, 1, 0, 2), 1);
        is("32 KIND", x.of(0, 0), 5);
    }

    private void count() {
        fresh();
        x.machine(1, 3, 1, 1);
        x.machine(5, 4, 1, 1);
        x.machine(2, 6, 1, 1);
        x.machine(5, 2, 1, 1);
        x.feed(3, 1, 1, 1, 1, 1);
        int[] due = {4, 3, 15, 1 + 4, 6};
        for (int what = 0; what < 5; what++) {
            int w = what;
            asked("33 count(" + w + ")", due[w], () -> x.count(w));
        }
        x.set(0, 3, 4);
        is("33 count(3)", x.count(3), 4);
        x.set(1, 3, 3);
        is("33 count(4)", x.count(4), 2);
        refused("33 count what", BAD, () -> x.count(5));
        refused("33 count what", BAD, () -> x.count(-1));
    }

    private void sheet() {
        fresh();
        is("34 sheet", x.sheet(0, 0, 40), 1);
        is("34 last item", x.put(0, 39, 1), 1);
        is("34 outside", x.put(0, 40, 1), -12);
        is("34 sheet anew", x.sheet(0, 1, 40), 1);
        is("34 all 0", x.number(0), 0);
        is("34 ints", x.load(0, 1, 0, 0), 0);
        refused("34 sheet n", BAD, () -> x.sheet(0, 0, 41));
        refused("34 sheet n", BAD, () -> x.sheet(0, 1, MAX));
        refused("34 sheet n below", -14, () -> x.sheet(0, 0, -1));
        refused("34 sheet n below", -14, () -> x.sheet(0, 1, MIN));
        refused("34 sheet sort", BAD, () -> x.sheet(0, 2, -1));
        refused("34 sheet sort", BAD, () -> x.sheet(0, -2, -1));
        refused("34 sheet", BAD, () -> x.sheet(4, 0, -1));
        refused("34 sheet", BAD, () -> x.sheet(-1, -1, 0));
        is("34 missing", x.sheet(0, -1, -5), 1);
        is("34 missing", x.number(0), NO);
        is("34 missing", x.sheet(0, -1, 99), 1);
        is("34 empty", x.sheet(0, 0, 0), 1);
        is("34 empty", x.number(0), 0);
    }

    private void put() {
        fresh();
        refused("35 put missing", -11, () -> x.put(0, 0, 0));
        refused("35 put missing", -11, () -> x.put(0, -1, 0));
        refused("35 put sheet", BAD, () -> x.put(4, 0, 0));
        refused("35 put sheet", BAD, () -> x.put(-1, 0, 0));
        x.sheet(0, 0, 4);
        refused("35 put outside", -12, () -> x.put(0, 4, 1));
        refused("35 put outside", -12, () -> x.put(0, -1, 1));
        refused("35 put outside", -12, () -> x.put(0, MIN, 1));
        int[] v = {65536 + 5, -65536 + 2, 131072 + 3, 1 - 65536};
        for (int i = 0; i < 4; i++) {
            is("35 put", x.put(0, i, v[i]), 1);
        }
        is("35 its lowest 16 bits", x.load(0, 0, 0, 1), 1);
        is("35 KIND", x.of(0, 0), 5);
        is("35 put below 0", x.put(0, 0, 65535), 1);
        is("35 shorts have signs", x.load(0, 0, 0, 1), 0);
        x.sheet(1, 1, 4);
        int[] w = {5, 2, 3, 65536 + 1};
        for (int i = 0; i < 4; i++) {
            is("35 put", x.put(1, i, w[i]), 1);
        }
        is("35 ints are whole", x.load(1, 1, 0, 1), 0);
    }

    private void copy() {
        fresh();
        row(0, 1, 0, 1, 1);
        row(1, 0, 0, 0, 0, 0);
        x.sheet(2, 1, 4);
        is("36 copy", x.copy(0, 0, 1, 1, 4), 4);
        is("36 NUMBER", x.number(1), 0b11010);
        is("36 copy onto itself, on", x.copy(0, 0, 0, 1, 3), 3);
        is("36 NUMBER", x.number(0), 0b1011);
        is("36 copy onto itself, back", x.copy(0, 1, 0, 0, 3), 3);
        is("36 NUMBER", x.number(0), 0b1101);
        asked("36 copy none", 0, () -> x.copy(0, 4, 1, 5, 0));
        refused("36 copy sheet", BAD, () -> x.copy(4, 0, 3, 0, 1));
        refused("36 copy sheet", BAD, () -> x.copy(3, 0, 4, 0, 1));
        refused("36 copy sheet", BAD, () -> x.copy(-1, 0, 0, 0, 1));
        refused("36 copy missing", -11, () -> x.copy(3, 9, 2, 0, 1));
        refused("36 copy missing", -11, () -> x.copy(2, 9, 3, 0, 1));
        refused("36 copy unlike", -13, () -> x.copy(0, 9, 2, 0, 1));
        refused("36 copy unlike", -13, () -> x.copy(2, 0, 0, 0, -1));
        int[][] outside = {
            {0, 0, -1}, {-1, 0, 1}, {0, -1, 1}, {1, 0, 4}, {0, 2, 4}, {5, 0, 0}, {0, 6, 0}, {MAX, 0, 1}, {0, 0, MAX}, {MAX, MAX, MAX},
            {MIN, 0, 0}, {0, 0, MIN}, {-1, 0, 0}
        };
        for (int[] o : outside) {
            refused("36 copy outside", -12, () -> x.copy(0, o[0], 1, o[1], o[2]));
        }
    }
}
