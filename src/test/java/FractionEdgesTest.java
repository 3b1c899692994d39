/** The boundary cases of promises 14 to 20: least fractions, what is built from them, cycles, linear laws. */
public final class FractionEdgesTest extends Edges {
    public static void main(String[] args) {
        FractionEdgesTest t = new FractionEdgesTest();
        t.asksChangeNothing();
        t.fractionShortest();
        t.fractionBehindAnother();
        t.fractionOfLikeOnes();
        t.fractionLongest();
        t.fractionRefused();
        t.toldEdges();
        t.toldRefused();
        t.buildLeastAndGreatest();
        t.buildCells();
        t.buildCarries();
        t.buildNumbers();
        t.buildRefused();
        t.buildOrder();
        t.cycleLeast();
        t.cycleGreatest();
        t.cycleOfCarries();
        t.cycleRefused();
        t.linearEdges();
        t.linearLongest();
        t.linearRefused();
        t.twinEdges();
        t.twinRefused();
        t.compareEdges();
        t.compareRefused();
        t.due.end();
    }

    private void asksChangeNothing() {
        for (int sheet = 0; sheet < 3; sheet++) {
            for (int what = 0; what < 4; what++) {
                int s = sheet, w = what;
                asksOnly("14 fraction changes nothing", x -> x.fraction(s, w));
                asksOnly("18 linear changes nothing", x -> x.linear(s, w));
                asksOnly("20 compare changes nothing", x -> x.compare(s));
            }
        }
        for (int machine = 0; machine < 3; machine++) {
            for (int what = 0; what < 2; what++) {
                int m = machine, w = what;
                asksOnly("15 told changes nothing", x -> x.told(m, w));
                asksOnly("17 cycle changes nothing", x -> x.cycle(m, w));
                asksOnly("19 twin changes nothing", x -> x.twin(m, 39, w));
            }
        }
    }

    // ---- promise 14

    private void leastIs(String row, long p, long q, long size, int span) {
        long[] want = {p, q, size, span};
        for (int what = 0; what < 4; what++) {
            int w = what;
            stays("14 LEAST of '" + row + "', what " + what, want[what], x -> bits(x, 3, row), x -> x.fraction(3, w));
        }
    }

    private void fractionShortest() {
        leastIs("", -1, 1, 1, 1);
        leastIs("0", 0, 1, 1, 1);
        leastIs("1", -1, 1, 1, 1);
        leastIs("00", 0, 1, 1, 1);
        leastIs("10", 1, 1, 1, 1);
        leastIs("01", -2, 1, 2, 2);
        leastIs("11", -1, 1, 1, 1);
    }

    /** What was found for one row says nothing of the next. */
    private void fractionBehindAnother() {
        Making asked = x -> {
            x.expand(0, 99, 125, 24);
            x.fraction(0, 0);
            x.linear(0, 0);
            x.compare(0);
            x.sheet(1, INTS, 0);
            bits(x, 2, "0");
        };
        answers("14 p of the empty row behind another", -1, asked, x -> x.fraction(1, 0));
        answers("14 q of the empty row behind another", 1, asked, x -> x.fraction(1, 1));
        answers("14 SIZE of the empty row behind another", 1, asked, x -> x.fraction(1, 2));
        answers("14 SPAN of the empty row behind another", 1, asked, x -> x.fraction(1, 3));
        answers("14 p of '0' behind another", 0, asked, x -> x.fraction(2, 0));
        answers("16 build from the empty row behind another", 1, asked, x -> x.build(1) + x.of(0, 3));
        answers("18 L of the empty row behind another", 0, asked, x -> x.linear(1, 0));
        answers("18 LAW of the empty row behind another", 0, asked, x -> x.linear(1, 1));
        answers("20 compare the empty row behind another", 1, asked, x -> x.compare(1));
    }

    private void fractionOfLikeOnes() {
        // 3 by 1 and 1 by 3 have the same SIZE: the least q.
        leastIs("110", 3, 1, 3, 2);
        // 4 and -4 by 1, and by 3: the least q, then the least p.
        leastIs("001", -4, 1, 4, 3);
        // -1 by 3 and -3 by 1: 1010 is that of -1 by 3 alone, 101 of both (-3 is 1 0 1 1 ..).
        leastIs("101", -3, 1, 3, 2);
        leastIs("1010", -1, 3, 3, 2);
    }

    private void fractionLongest() {
        leastIs("0".repeat(24), 0, 1, 1, 1);
        leastIs("1".repeat(24), -1, 1, 1, 1);
        leastIs("0".repeat(23) + "1", -(1 << 23), 1, 1 << 23, 24);
        // p is q and 2 to the 23, or q less that, modulo 2 to the 24: at best both are some half of it.
        leastIs("1" + "0".repeat(22) + "1", -(1 << 22) - 1, (1 << 22) - 1, (1 << 22) + 1, 23);
        Making some = x -> {
            x.sheet(0, SHORTS, 24);
            x.sheet(1, INTS, 25);
            x.sheet(2, SHORTS, 40);
        };
        for (int what = 0; what < 4; what++) {
            int w = what;
            stays("14 24 bits, what " + what, what == 0 ? 0 : 1, some, x -> x.fraction(0, w));
            stays("14 25 bits, what " + what, NO, some, x -> x.fraction(1, w));
            stays("14 40 bits, what " + what, NO, some, x -> x.fraction(2, w));
        }
    }

    private void fractionRefused() {
        for (int s : NO_SHEETS) {
            refuses("14 fraction of sheet " + s, NO, x -> x.fraction(s, 0));
        }
        for (int what : new int[] {-1, 4, MIN, MAX}) {
            refuses("14 fraction, what " + what, NO, x -> x.fraction(0, what));
        }
        refuses("14 fraction of one that is missing", NO, x -> x.fraction(3, 0));
    }

    // ---- promise 15

    private void tells(String edge, int[] machine, int carry, long above, long below) {
        Making one = x -> {
            x.machine(0, machine[0], machine[1], machine[2]);
            x.set(0, 1, carry);
        };
        stays("15 above, " + edge, above, one, x -> x.told(0, 0));
        stays("15 below, " + edge, below, one, x -> x.told(0, 1));
    }

    private void toldEdges() {
        tells("0 by 1", new int[] {1, 1, 0}, 0, 0, 1);
        tells("0 by 1 of great LINKS", new int[] {6, 63, 0}, 0, 0, 1);
        tells("all 1s", new int[] {1, 1, 1}, 0, -1, 1);
        tells("CARRY 9", new int[] {1, 1, 0}, 9, -18, 1);
        tells("CARRY -9", new int[] {1, 1, 0}, -9, 18, 1);
        tells("CARRY 9 of six cells", new int[] {6, 63, 0}, 9, -576, 125);
        tells("CARRY -9 of six cells", new int[] {6, 63, 0}, -9, 576, 125);
        tells("in lowest terms", new int[] {3, 5, 3}, 0, 1, 3);
        // Only the last cell tapped: LINKS are 1.
        tells("LINKS 1", new int[] {6, 32, 32}, 0, -32, 1);
        tells("lowest terms, CARRY 5 by 125", new int[] {6, 63, 0}, 5, -64, 25);
    }

    private void toldRefused() {
        for (int m : new int[] {-1, 3, 4, MIN, MAX}) {
            refuses("15 told by machine " + m, NO, x -> x.told(m, 0));
        }
        for (int part : new int[] {-1, 2, MIN, MAX}) {
            refuses("15 told, part " + part, NO, x -> x.told(0, part));
        }
        for (int kind = 1; kind < 6; kind++) {
            int k = kind;
            for (int part = 0; part < 2; part++) {
                int of = part;
                stays("15 told by KIND " + kind, NO, x -> x.machine(k, 2, 1, 1), x -> x.told(0, of));
            }
        }
        refusesWithoutMachines("15 told without machines", NO, x -> x.told(0, 0));
        CarryShifts x = made(y -> y.machine(5, 2, 1, 1));
        x.set(0, 3, 0);
        is("15 told, CARRYING by now", x.told(0, 1), 3);
        x.set(0, 3, 1);
        is("15 told, CARRYING no more", x.told(0, 1), NO);
    }

    // ---- promise 16

    /** Built as number 0 from a row of 24 bits of p over q. */
    private void builds(String edge, int p, int q, int[] due) {
        CarryShifts x = new CarryShifts();
        x.expand(0, p, q, 24);
        is("16 " + edge, x.build(0), 0);
        for (int what = 0; what < due.length; what++) {
            is("16 " + edge + ", what " + what, x.of(0, what), due[what]);
        }
        is("16 " + edge + ", LINKS", x.of(0, 6), q);
        is("16 " + edge + ", above", x.told(0, 0), p);
        is("16 " + edge + ", below", x.told(0, 1), q);
        is("16 " + edge + ", replays", x.replays(0, 0, 0), NONE);
    }

    private void buildLeastAndGreatest() {
        CarryShifts x = made(y -> y.sheet(2, INTS, 0));
        is("16 build from the empty row", x.build(2), 0);
        int[] due = {0, 1, 1, 1, 0, 132, 1};
        for (int what = 0; what < due.length; what++) {
            is("16 built from the empty row, what " + what, x.of(0, what), due[what]);
        }
        builds("0 by 1", 0, 1, new int[] {0, 1, 1, 0, 0, 132});
        builds("-1 by 1", -1, 1, new int[] {0, 1, 1, 1, 0, 132});
        builds("99 by 125", 99, 125, new int[] {0, 6, 63, 31});
    }

    private void buildCells() {
        builds("1 cell", -1, 1, new int[] {0, 1, 1, 1, 0});
        builds("2 cells", -1, 3, new int[] {0, 2, 1, 1, 0});
        builds("2 cells, both tapped", 1, 5, new int[] {0, 2, 3, 1});
        builds("3 cells", -1, 7, new int[] {0, 3, 1, 1, 0});
        builds("5 cells, all tapped", -1, 61, new int[] {0, 5, 31, 11});
        builds("6 cells", -1, 63, new int[] {0, 6, 1, 1, 0});
        builds("6 cells, all tapped", -1, 125, new int[] {0, 6, 63});
        for (int q : new int[] {127, 129, 255}) {
            stays("16 build of 7 cells or more", STATE, x -> {
                furnish(x);
                x.expand(0, -1, q, 24);
            }, x -> x.build(0));
        }
    }

    private void buildCarries() {
        builds("CARRY -9", 18, 1, new int[] {0, 1, 1, 0, -9});
        builds("CARRY 9", -18, 1, new int[] {0, 1, 1, 0, 9});
        builds("CARRY 9, STATE 1", -19, 1, new int[] {0, 1, 1, 1, 9});
        builds("CARRY -9, STATE 1", 17, 1, new int[] {0, 1, 1, 1, -9});
        for (int p : new int[] {19, 20, -20, -21, 900, -900}) {
            stays("16 build of p " + p + " by 1", STATE, x -> {
                furnish(x);
                x.expand(0, p, 1, 24);
            }, x -> x.build(0));
        }
    }

    private void buildNumbers() {
        CarryShifts x = made(y -> y.expand(1, 5, 7, 24));
        for (int m = 0; m < 4; m++) {
            is("16 build, number " + m, x.build(1), m);
            is("16 machines", x.count(0), m + 1);
        }
        is("16 build, one beyond the fourth", x.build(1), FULL);
        stands("16 the fourth", x, 3, 3, -1);
        is("16 the sheet stays", x.number(1), 4793491);
    }

    private void buildRefused() {
        for (int s : NO_SHEETS) {
            refuses("16 build from sheet " + s, BAD, x -> x.build(s));
        }
        refuses("16 build from one that is missing", MISSING, x -> x.build(3));
        refuses("16 build from 30 bits", BAD, x -> x.build(1));
        stays("16 build from 25 bits", BAD, x -> x.sheet(0, SHORTS, 25), x -> x.build(0));
        answers("16 build from 24 bits", 0, x -> x.sheet(0, SHORTS, 24), x -> x.build(0));
        stays("16 build, full", FULL, Edges::fill, x -> x.build(2));
    }

    private void buildOrder() {
        stays("16 SHEET ahead of FULL", BAD, Edges::fill, x -> x.build(4));
        stays("16 missing ahead of FULL", MISSING, Edges::fill, x -> x.build(3));
        stays("16 25 bits ahead of FULL", BAD, x -> {
            fill(x);
            x.sheet(0, INTS, 25);
        }, x -> x.build(0));
        stays("16 FULL ahead of 7 cells", FULL, x -> {
            fill(x);
            x.expand(0, -1, 127, 24);
        }, x -> x.build(0));
        stays("16 FULL ahead of CARRY 10", FULL, x -> {
            fill(x);
            x.expand(0, -20, 1, 24);
        }, x -> x.build(0));
        stays("16 25 bits ahead of 7 cells", BAD, x -> {
            furnish(x);
            x.expand(0, -1, 127, 25);
        }, x -> x.build(0));
    }

    // ---- promise 17

    private void comesRound(String edge, int[] machine, int carry, int period, int ahead) {
        Making one = x -> {
            x.machine(machine[0], machine[1], machine[2], machine[3]);
            x.set(0, 1, carry);
        };
        stays("17 PERIOD, " + edge, period, one, x -> x.cycle(0, 0));
        stays("17 AHEAD, " + edge, ahead, one, x -> x.cycle(0, 1));
    }

    private void cycleLeast() {
        comesRound("all 0", new int[] {0, 6, 63, 0}, 0, 1, 0);
        comesRound("all 1", new int[] {0, 1, 1, 1}, 0, 1, 0);
        comesRound("one step ahead", new int[] {1, 4, 8, 1}, 0, 1, 1);
        comesRound("what runs out of six cells", new int[] {1, 6, 32, 31}, 0, 1, 5);
        comesRound("TURNED, one cell", new int[] {2, 1, 1, 0}, 0, 2, 0);
    }

    private void cycleGreatest() {
        comesRound("LINEAR, six cells", new int[] {1, 6, 3, 1}, 0, 63, 0);
        // 2 is a primitive root of 107; 27 of 6 cells links to 107.
        comesRound("CARRYING, LINKS 107", new int[] {0, 6, 27, 1}, 9, 106, 3);
    }

    private void cycleOfCarries() {
        comesRound("LINEAR, CARRY 9 stays", new int[] {1, 2, 1, 1}, 9, 2, 0);
        comesRound("TURNED, CARRY -9 stays", new int[] {2, 1, 1, 1}, -9, 2, 0);
        comesRound("CARRYING, CARRY -1 that stays", new int[] {0, 1, 1, 0}, -1, 1, 2);
        comesRound("CARRYING, CARRY 1", new int[] {0, 1, 1, 1}, 1, 1, 2);
        comesRound("RING, CARRY 0", new int[] {5, 1, 1, 0}, 0, 1, 0);
        comesRound("RING, CARRY below 0 never comes again", new int[] {5, 1, 1, 0}, -1, 1, 1);
        comesRound("RING, CARRY beyond its cells never comes again", new int[] {5, 1, 1, 0}, 2, 1, 1);
        comesRound("RING, CARRY -8 beyond three cells", new int[] {5, 3, 1, 0}, -8, 1, 1);
        comesRound("HELD, CARRY 9", new int[] {4, 1, 1, 1}, 9, 1, 2);
        comesRound("HELD, CARRY 1 of one cell", new int[] {4, 1, 1, 0}, 1, 1, 1);
        comesRound("BORROWING, CARRY 9", new int[] {3, 1, 1, 0}, 9, 1, 3);
    }

    private void cycleRefused() {
        for (int m : new int[] {-1, 3, 4, MIN, MAX}) {
            refuses("17 cycle of machine " + m, BAD, x -> x.cycle(m, 0));
        }
        for (int what : new int[] {-1, 2, MIN, MAX}) {
            refuses("17 cycle, what " + what, BAD, x -> x.cycle(0, what));
        }
        refusesWithoutMachines("17 cycle without machines", BAD, x -> x.cycle(0, 0));
        answers("17 cycle of the fourth machine", 1, x -> {
            fill(x);
            x.set(3, 3, 1);
            x.set(3, 0, 0);
        }, x -> x.cycle(3, 0));
    }

    // ---- promise 18

    private void lawIs(String row, long cells, long law) {
        stays("18 L of '" + row + "'", cells, x -> bits(x, 3, row), x -> x.linear(3, 0));
        stays("18 LAW of '" + row + "'", law, x -> bits(x, 3, row), x -> x.linear(3, 1));
    }

    private void linearEdges() {
        lawIs("", 0, 0);
        lawIs("0", 0, 0);
        lawIs("1", 1, NONE);
        lawIs("10", 1, 0);
        lawIs("11", 1, 1);
        lawIs("01", 2, NONE);
        lawIs("010", 2, NONE);
        lawIs("0100", 2, 0);
        lawIs("0101", 2, 2);
        lawIs("0110", 2, 1 ^ 2);
        lawIs("0111", 2, 1);
        // Twice L is one more than the bits, just as many, one fewer.
        lawIs("10010", 3, NONE);
        lawIs("100101", 3, 6);
        lawIs("1001011", 3, 6);
    }

    private void linearLongest() {
        lawIs("0".repeat(40), 0, 0);
        lawIs("1".repeat(40), 1, 1);
        lawIs("0".repeat(39) + "1", 40, NONE);
        lawIs("0".repeat(19) + "1" + "0".repeat(20), 20, 0);
        lawIs("0".repeat(19) + "1" + "0".repeat(19) + "1", 20, 1 << 19);
        lawIs("0".repeat(20) + "1" + "0".repeat(19), 21, NONE);
        lawIs("0".repeat(19) + "1".repeat(21), 20, 1);
        lawIs("1".repeat(39) + "0", 39, NONE);
    }

    private void linearRefused() {
        for (int s : NO_SHEETS) {
            refuses("18 linear of sheet " + s, NO, x -> x.linear(s, 0));
        }
        for (int what : new int[] {-1, 2, MIN, MAX}) {
            refuses("18 linear, what " + what, NO, x -> x.linear(0, what));
        }
        refuses("18 linear of one that is missing", NO, x -> x.linear(3, 0));
        refuses("18 LAW of one that is missing", NO, x -> x.linear(3, 1));
    }

    // ---- promise 19

    private void twinIs(String edge, int n, long cells, long law) {
        Making one = x -> x.machine(1, 6, 1, 32);
        stays("19 L, " + edge, cells, one, x -> x.twin(0, n, 0));
        stays("19 LAW, " + edge, law, one, x -> x.twin(0, n, 1));
    }

    private void twinEdges() {
        twinIs("no step", 0, 0, 0);
        twinIs("one step", 1, 0, 0);
        twinIs("all 0 so far", 5, 0, 0);
        twinIs("just told", 6, 6, NONE);
        twinIs("one step too few", 11, 6, NONE);
        twinIs("just as many steps", 12, 6, 32);
        twinIs("40 steps", 40, 6, 32);
        stays("19 in thought", 1, Edges::fill, x -> x.twin(3, 1, 0));
        stays("19 of a CARRYING machine, 40 steps", 20, x -> x.machine(0, 6, 27, 1), x -> x.twin(0, 40, 0));
    }

    private void twinRefused() {
        for (int m : new int[] {-1, 3, 4, MIN, MAX}) {
            refuses("19 twin of machine " + m, NO, x -> x.twin(m, 1, 0));
        }
        for (int n : new int[] {-1, 41, MIN, MAX}) {
            refuses("19 twin, n " + n, NO, x -> x.twin(0, n, 0));
        }
        for (int what : new int[] {-1, 2, MIN, MAX}) {
            refuses("19 twin, what " + what, NO, x -> x.twin(0, 1, what));
        }
        refusesWithoutMachines("19 twin without machines", NO, x -> x.twin(0, 0, 0));
    }

    // ---- promise 20

    private void compareEdges() {
        stays("20 compare the empty row", 1, Edges::furnish, x -> x.compare(2));
        stays("20 compare 24 bits, all 0", 1, x -> bits(x, 0, "0".repeat(24)), x -> x.compare(0));
        stays("20 compare 24 bits, the last 1", 0, x -> bits(x, 0, "0".repeat(23) + "1"), x -> x.compare(0));
        stays("20 compare, below 0", -1, x -> x.expand(3, 1, 3, 24), x -> x.compare(3));
        stays("20 compare, far below 0", -5, x -> x.expand(3, 99, 125, 24), x -> x.compare(3));
    }

    private void compareRefused() {
        for (int s : NO_SHEETS) {
            refuses("20 compare sheet " + s, REFUSED, x -> x.compare(s));
        }
        refuses("20 compare one that is missing", -1011, x -> x.compare(3));
        refuses("20 compare 30 bits", REFUSED, x -> x.compare(1));
        stays("20 compare 25 bits", REFUSED, x -> x.sheet(0, SHORTS, 25), x -> x.compare(0));
        stays("20 compare 40 bits", REFUSED, x -> x.sheet(0, INTS, 40), x -> x.compare(0));
    }
}
