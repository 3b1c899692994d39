/** The least fraction of a row, its law and its machine against searches through all there is. */
public final class LeastTest {
    private final Due due = new Due();
    private CarryShifts x = new CarryShifts();

    public static void main(String[] args) {
        LeastTest t = new LeastTest();
        t.allShortRows();
        t.allMiddleRows();
        t.longRows();
        t.allMachines();
        t.due.end();
    }

    private void row(long bits, int size) {
        x = new CarryShifts();
        x.sheet(0, 1, size);
        for (int i = 0; i < size; i++) {
            x.put(0, i, (int) (bits >> i & 1));
        }
    }

    private void check(long bits, int size) {
        row(bits, size);
        int[] numbers = new int[size];
        for (int i = 0; i < size; i++) {
            numbers[i] = (int) (bits >> i & 1);
        }
        long[] f = Model.least(numbers);
        long greater = Math.max(f[1], Math.abs(f[0]));
        String of = "row " + bits + " of " + size + ": ";
        due.is(of + "p", x.fraction(0, 0), f[0]);
        due.is(of + "q", x.fraction(0, 1), f[1]);
        due.is(of + "SIZE", x.fraction(0, 2), greater);
        due.is(of + "SPAN", x.fraction(0, 3), Long.toBinaryString(greater).length());
        due.is(of + "L", x.linear(0, 0), Model.linearOf(numbers, 0));
        due.is(of + "LAW", x.linear(0, 1), Model.linearOf(numbers, 1));
    }

    private void allShortRows() {
        for (int size = 0; size <= 12; size++) {
            for (long bits = 0; bits < 1L << size; bits++) {
                check(bits, size);
            }
        }
    }

    /** Each row is the one ahead with one bit turned, so that an object serves for many of them. */
    private void allMiddleRows() {
        for (int size = 13; size <= 17; size++) {
            for (int i = 0; i < 1 << size; i++) {
                int bits = i ^ i >> 1;
                if (i % 128 == 0) {
                    row(bits, size);
                } else {
                    int turned = Integer.numberOfTrailingZeros(i);
                    x.put(0, turned, bits >> turned & 1);
                }
                long[] f = leastByEachQ(bits, size);
                due.is("p of row " + bits + " of " + size, x.fraction(0, 0), f[0]);
                due.is("q of row " + bits + " of " + size, x.fraction(0, 1), f[1]);
            }
        }
    }

    private static long[] leastByEachQ(long bits, int size) {
        long whole = 1L << size;
        long least = Long.MAX_VALUE;
        long[] found = {0, 0};
        for (long q = 1; q <= least; q += 2) {
            long up = bits * q & whole - 1;
            // As great below 0 as above, the one below is the lesser p.
            long p = up < whole - up ? up : up - whole;
            long greater = Math.max(q, Math.abs(p));
            if (greater < least) {
                least = greater;
                // Where q is the greater, a p below 0 may still have room.
                found[0] = p > 0 && whole - p <= greater ? p - whole : p;
                found[1] = q;
            }
        }
        return found;
    }

    /** Rows near powers of 2 and near halves, where the least is great and many are nearly as good. */
    private void longRows() {
        for (int size = 13; size <= 24; size++) {
            for (int k = 0; k <= size; k += size < 20 ? 1 : 5) {
                for (long off = -3; off <= 3; off++) {
                    check((1L << k) + off & (1L << size) - 1, size);
                    check((1L << size - 1) + off & (1L << size) - 1, size);
                    check((1L << k) * (1 + (1L << size / 2)) + off & (1L << size) - 1, size);
                }
            }
        }
        long z = 1;
        for (int i = 0; i < 3000; i++) {
            z = z * 6364136223846793005L + 1442695040888963407L;
            int size = 13 + (int) (z >>> 60) % 12;
            check(z >>> 20 & (1L << size) - 1, size);
        }
    }

    /** Every CARRYING machine: what it tells as a fraction, and what is built from its first bits. */
    private void allMachines() {
        for (int cells = 1; cells <= 6; cells++) {
            for (int taps = 1; taps < 1 << cells; taps++) {
                for (int state = 0; state < 1 << cells; state++) {
                    for (int carry = -9; carry <= 9; carry++) {
                        checkMachine(cells, taps, state, carry);
                    }
                }
            }
        }
    }

    private void checkMachine(int cells, int taps, int state, int carry) {
        x = new CarryShifts();
        x.machine(0, cells, taps, state);
        x.set(0, 1, carry);
        long[] told = Model.toldBy(new Model.Machine(0, cells, taps, state, carry));
        String of = "machine " + cells + " " + taps + " " + state + " carry " + carry + ": ";
        due.is(of + "above", x.told(0, 0), told[0]);
        due.is(of + "below", x.told(0, 1), told[1]);
        x.film(0, 0, 24);
        due.is(of + "p", x.fraction(0, 0), told[0]);
        due.is(of + "q", x.fraction(0, 1), told[1]);
        int built = x.build(0);
        if (built == 1) {
            due.is(of + "built", x.alike(0, 40), 3);
            due.is(of + "built above", x.told(1, 0), told[0]);
        } else {
            due.is(of + "built", built, -3);
        }
    }
}
