/**
 * What the tests of boundary cases share. Each case stands on objects of its own, which are used for
 * far fewer calls than the 512 that the document allows.
 */
abstract class Edges {
    static final int NONE = -1, BAD = -2, STATE = -3, FULL = -4;
    static final int MISSING = -11, OUTSIDE = -12, UNLIKE = -13, BELOW = -14, REFUSED = -1000;
    static final long NO = Long.MIN_VALUE;
    static final int SHORTS = 0, INTS = 1;
    static final int MIN = Integer.MIN_VALUE, MAX = Integer.MAX_VALUE;
    /** None of these is the number of a sheet. */
    static final int[] NO_SHEETS = {-1, 4, MIN, MAX};

    final Due due = new Due();

    interface Making {
        void on(CarryShifts x);
    }

    interface Asking {
        long on(CarryShifts x);
    }

    final void is(String edge, long got, long want) {
        due.is(edge, got, want);
    }

    final void answers(String edge, long want, Making ready, Asking call) {
        is(edge, call.on(made(ready)), want);
    }

    /** The answer, and that behind it all is as on an object that was made ready alike and not asked. */
    final void stays(String edge, long want, Making ready, Asking call) {
        CarryShifts asked = made(ready);
        is(edge, call.on(asked), want);
        String left = Standing.of(asked);
        String due1 = Standing.of(made(ready));
        due.holds(edge + " changes nothing; is " + left + ", due is " + due1, left.equals(due1));
    }

    /** Whatever it answers on a furnished object, it changes nothing. */
    final void asksOnly(String edge, Asking call) {
        CarryShifts asked = made(Edges::furnish);
        call.on(asked);
        due.holds(edge, Standing.of(asked).equals(Standing.of(made(Edges::furnish))));
    }

    /** A refused call, on a furnished object. */
    final void refuses(String edge, long want, Asking call) {
        stays(edge, want, Edges::furnish, call);
    }

    /** A call that is refused as no machine is there, on an object that has everything else. */
    final void refusesWithoutMachines(String edge, long want, Asking call) {
        stays(edge, want, x -> {
            furnish(x);
            dropAll(x);
        }, call);
    }

    static CarryShifts made(Making ready) {
        CarryShifts x = new CarryShifts();
        ready.on(x);
        return x;
    }

    static void nothing(CarryShifts x) {
    }

    /**
     * Three machines (0, 1, 2), an image of another one, sheet 0 of 9 shorts, sheet 1 of 30 ints, sheet 2
     * empty (shorts), sheet 3 missing, a tape with a clause.
     */
    static void furnish(CarryShifts x) {
        x.machine(3, 4, 11, 6);
        x.set(0, 1, 7);
        x.image();
        x.drop();
        x.machine(0, 3, 5, 3);
        x.machine(5, 6, 33, 42);
        x.machine(2, 1, 1, 1);
        x.set(0, 1, -9);
        x.set(1, 1, 9);
        row(x, 0, SHORTS, 4, 5, 22, 9, 1, 3, 7, 6, 1);
        x.sheet(1, INTS, 30);
        putAll(x, 1, 3, 6, 63, 62, 65536, 1, 1, 1);
        x.sheet(2, SHORTS, 0);
        feed(x, "machine 1 2 3 1;step 0 9;drop");
    }

    /** As furnished, and a fourth machine. */
    static void fill(CarryShifts x) {
        furnish(x);
        x.machine(3, 2, 3, 1);
    }

    static void dropAll(CarryShifts x) {
        for (int i = 0; i < 4; i++) {
            x.drop();
        }
    }

    static void row(CarryShifts x, int sheet, int sort, int... numbers) {
        x.sheet(sheet, sort, numbers.length);
        putAll(x, sheet, numbers);
    }

    static void putAll(CarryShifts x, int sheet, int... numbers) {
        for (int i = 0; i < numbers.length; i++) {
            x.put(sheet, i, numbers[i]);
        }
    }

    /** A row of ints by its text: "110" is bit 0 and bit 1. */
    static void bits(CarryShifts x, int sheet, String row) {
        x.sheet(sheet, INTS, row.length());
        for (int i = 0; i < row.length(); i++) {
            x.put(sheet, i, row.charAt(i) - '0');
        }
    }

    static void feed(CarryShifts x, String text) {
        for (int from = 0; from < text.length(); from += 5) {
            int[] five = new int[5];
            int n = Math.min(5, text.length() - from);
            for (int k = 0; k < n; k++) {
                five[k] = text.charAt(from + k);
            }
            x.feed(n, five[0], five[1], five[2], five[3], five[4]);
        }
    }

    static int sizeOf(CarryShifts x, int sheet) {
        return Standing.sizeOf(x, sheet);
    }

    /** STATE and CARRY of a machine. */
    final void stands(String edge, CarryShifts x, int machine, int state, int carry) {
        is(edge + ": STATE", x.of(machine, 3), state);
        is(edge + ": CARRY", x.of(machine, 4), carry);
    }

    /** Sort, size and bits of a sheet. */
    final void holds(String edge, CarryShifts x, int sheet, int sort, int size, long number) {
        is(edge + ": its sort", x.load(sheet, sort, 0, 0), 0);
        is(edge + ": its size", sizeOf(x, sheet), size);
        is(edge + ": its bits", x.number(sheet), number);
    }
}
