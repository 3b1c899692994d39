/** The boundary cases of promises 21 to 27: words, runs, what replays a row, lots. */
public final class ReplayEdgesTest extends Edges {
    private static final int ALL_KINDS = 63, ALL_CARRIES = (1 << 19) - 1;
    private static final String ZEROS = "0".repeat(40);

    public static void main(String[] args) {
        ReplayEdgesTest t = new ReplayEdgesTest();
        t.windowsWidths();
        t.windowsNoRoom();
        t.windowsOfLikeOnes();
        t.windowsRefused();
        t.runsLengths();
        t.runsAtTheEnds();
        t.runsUnlike();
        t.runsRefused();
        t.replaysFirstOtherwise();
        t.replaysKinds();
        t.replaysCarries();
        t.replaysIsThought();
        t.replaysRefused();
        t.searchSizes();
        t.searchFirst();
        t.searchLeastAndGreatest();
        t.searchRefused();
        t.alikeCounts();
        t.alikeRefused();
        t.drawnPlaces();
        t.drawnCounts();
        t.drawnRefused();
        t.chanceSeeds();
        t.chanceLeastAndGreatest();
        t.chanceLowestTerms();
        t.chanceRefused();
        t.chanceOrder();
        t.due.end();
    }

    // ---- promise 21

    private void wordsAre(String row, int w, int unlike, int word, int times) {
        int[] want = {unlike, word, times};
        for (int what = 0; what < 3; what++) {
            int asked = what;
            stays("21 words of " + w + " in '" + row + "', what " + what, want[what], x -> bits(x, 3, row),
                    x -> x.windows(3, w, asked));
        }
    }

    private void windowsWidths() {
        wordsAre(ZEROS, 1, 1, 0, 40);
        wordsAre(ZEROS, 8, 1, 0, 33);
        wordsAre("1".repeat(40), 8, 1, 255, 33);
        wordsAre("00000001", 8, 1, 128, 1);
        wordsAre("10000000", 8, 1, 1, 1);
        wordsAre("0".repeat(39) + "1", 8, 2, 0, 32);
        wordsAre("0".repeat(32) + "1".repeat(8), 1, 2, 0, 32);
    }

    private void windowsNoRoom() {
        wordsAre("", 1, 0, NONE, NONE);
        wordsAre("", 8, 0, NONE, NONE);
        wordsAre("1111111", 8, 0, NONE, NONE);
        wordsAre("1", 1, 1, 1, 1);
        wordsAre("1", 2, 0, NONE, NONE);
        wordsAre("10", 2, 1, 1, 1);
        wordsAre("101", 2, 2, 1, 1);
    }

    private void windowsOfLikeOnes() {
        wordsAre("10", 1, 2, 1, 1);
        wordsAre("01", 1, 2, 0, 1);
        wordsAre("1100", 1, 2, 1, 2);
        wordsAre("0011", 1, 2, 0, 2);
        wordsAre("100", 1, 2, 0, 2);
        // 10, 00, 00, 01: the one that stands most often is neither first nor last.
        wordsAre("10001", 2, 3, 0, 2);
    }

    private void windowsRefused() {
        for (int s : NO_SHEETS) {
            refuses("21 windows of sheet " + s, BAD, x -> x.windows(s, 1, 0));
        }
        for (int w : new int[] {0, 9, -1, MIN, MAX}) {
            refuses("21 windows, w " + w, BAD, x -> x.windows(0, w, 0));
            refuses("21 w " + w + " ahead of missing", BAD, x -> x.windows(3, w, 0));
        }
        for (int what : new int[] {-1, 3, MIN, MAX}) {
            refuses("21 windows, what " + what, BAD, x -> x.windows(0, 1, what));
            refuses("21 what " + what + " ahead of missing", BAD, x -> x.windows(3, 1, what));
        }
        refuses("21 windows of one that is missing", MISSING, x -> x.windows(3, 1, 0));
        refuses("21 windows of one that is missing", MISSING, x -> x.windows(3, 8, 2));
    }

    // ---- promise 22

    private void runsAre(String row, int bit, int length, int want) {
        stays("22 runs in '" + row + "' of " + bit + ", length " + length, want, x -> bits(x, 3, row), x -> x.runs(3, bit, length));
    }

    private void runsLengths() {
        runsAre(ZEROS, 0, 40, 1);
        runsAre(ZEROS, 0, 39, 0);
        runsAre(ZEROS, 0, 41, 0);
        runsAre(ZEROS, 1, 40, 0);
        runsAre("1".repeat(40), 1, 40, 1);
        runsAre("1".repeat(40), 0, 40, 0);
        for (int length : new int[] {0, -1, MIN, MAX}) {
            runsAre("0110", 0, length, 0);
            runsAre("0110", 1, length, 0);
            runsAre("1001", 0, length, 0);
            runsAre("1001", 1, length, 0);
            runsAre("0110", NONE, length, 2);
        }
    }

    private void runsAtTheEnds() {
        runsAre("", 0, 1, 0);
        runsAre("", 1, 0, 0);
        runsAre("1", 1, 1, 1);
        runsAre("0", 0, 1, 1);
        runsAre("110", 1, 2, 1);
        runsAre("011", 1, 2, 1);
        runsAre("11011", 1, 2, 2);
        runsAre("11011", 1, 1, 0);
        runsAre("10".repeat(20), 1, 1, 20);
        runsAre("10".repeat(20), 0, 1, 20);
    }

    private void runsUnlike() {
        runsAre("", NONE, 0, 0);
        runsAre("1", NONE, 0, 1);
        runsAre("10", NONE, 0, 2);
        runsAre("1010", NONE, 0, 2);
        runsAre("100110", NONE, 0, 4);
        runsAre(ZEROS, NONE, 0, 1);
        runsAre("0".repeat(39) + "1", NONE, 0, 2);
        // 1 2 3 4 of each bit.
        runsAre("10110011100011110000", NONE, 0, 8);
    }

    private void runsRefused() {
        for (int s : NO_SHEETS) {
            refuses("22 runs of sheet " + s, BAD, x -> x.runs(s, 0, 1));
        }
        for (int bit : new int[] {-2, 2, MIN, MAX}) {
            refuses("22 runs of bit " + bit, BAD, x -> x.runs(0, bit, 1));
            refuses("22 bit " + bit + " ahead of missing", BAD, x -> x.runs(3, bit, 1));
        }
        for (int bit = -1; bit < 2; bit++) {
            int b = bit;
            refuses("22 runs of one that is missing", MISSING, x -> x.runs(3, b, 1));
        }
    }

    // ---- promise 23

    /** A machine of one cell that is tapped, and a row. */
    private Making one(int kind, int state, int carry, String row) {
        return x -> {
            x.machine(kind, 1, 1, state);
            x.set(0, 1, carry);
            bits(x, 3, row);
        };
    }

    private void replaysFirstOtherwise() {
        stays("23 the empty row", NONE, one(0, 1, 0, ""), x -> x.replays(0, 3, 0));
        stays("23 all of 40", NONE, one(0, 1, 0, "1".repeat(40)), x -> x.replays(0, 3, 0));
        stays("23 the last of 40 otherwise", 39, one(0, 1, 0, "1".repeat(39) + "0"), x -> x.replays(0, 3, 0));
        stays("23 the first otherwise", 0, one(0, 1, 0, "0"), x -> x.replays(0, 3, 0));
        stays("23 all otherwise", 0, one(0, 1, 0, ZEROS), x -> x.replays(0, 3, 0));
        stays("23 the second and third otherwise", 1, one(0, 1, 0, "1001"), x -> x.replays(0, 3, 0));
        CarryShifts x = made(Edges::furnish);
        x.film(0, 1, 40);
        is("23 from now", x.replays(1, 0, 0), NONE);
        x.step(1, 1);
        due.holds("23 from now, one step on", x.replays(1, 0, 0) != NONE);
        x.film(0, 1, 40);
        is("23 from now", x.replays(1, 0, 0), NONE);
        x.set(1, 1, 0);
        due.holds("23 with the CARRY that it has", x.replays(1, 0, 0) != NONE);
    }

    private void replaysKinds() {
        stays("23 KINDS, the empty row", ALL_KINDS, one(3, 1, 5, ""), x -> x.replays(0, 3, 1));
        // STATE 1, CARRY 0: TURNED tells 1 0 .., BORROWING 1 1 0.
        stays("23 KINDS, all 1", 1 + 2 + 16 + 32, one(0, 1, 0, "111"), x -> x.replays(0, 3, 1));
        stays("23 KINDS whatever its own is", 1 + 2 + 16 + 32, one(2, 1, 0, "111"), x -> x.replays(0, 3, 1));
        stays("23 KINDS, TURNED alone", 4, one(0, 1, 0, "10"), x -> x.replays(0, 3, 1));
        stays("23 KINDS, BORROWING alone", 8, one(0, 1, 0, "110"), x -> x.replays(0, 3, 1));
        stays("23 KINDS, none", 0, one(0, 1, 0, "0"), x -> x.replays(0, 3, 1));
        // CARRY 9, STATE 0: CARRYING tells -18, LINEAR 0, RING 0 1 1 1 1 1.
        stays("23 KINDS, CARRYING alone", 1, one(5, 0, 9, "011101"), x -> x.replays(0, 3, 1));
        stays("23 KINDS, LINEAR alone", 2, one(5, 0, 9, "00"), x -> x.replays(0, 3, 1));
        stays("23 KINDS, RING alone", 32, one(0, 0, 9, "011111"), x -> x.replays(0, 3, 1));
    }

    private void replaysCarries() {
        stays("23 CARRIES, the empty row", ALL_CARRIES, one(0, 1, 5, ""), x -> x.replays(0, 3, 2));
        stays("23 CARRIES, of no matter", ALL_CARRIES, one(1, 1, 5, "1".repeat(40)), x -> x.replays(0, 3, 2));
        stays("23 CARRIES, none", 0, one(1, 1, 5, "1".repeat(39) + "0"), x -> x.replays(0, 3, 2));
        // CARRYING, one cell, STATE 0: it tells minus twice its CARRY.
        stays("23 CARRIES, -9 alone", 1, one(0, 0, 0, "010010"), x -> x.replays(0, 3, 2));
        stays("23 CARRIES, 9 alone", 1 << 18, one(0, 0, 0, "011101"), x -> x.replays(0, 3, 2));
        stays("23 CARRIES, 0 alone", 1 << 9, one(0, 0, 7, "000000"), x -> x.replays(0, 3, 2));
        stays("23 CARRIES, the odd ones", 0b1010101010101010101, one(0, 0, 0, "01"), x -> x.replays(0, 3, 2));
        stays("23 CARRIES, the even ones", 0b0101010101010101010, one(0, 0, 0, "00"), x -> x.replays(0, 3, 2));
    }

    private void replaysIsThought() {
        for (int m = 0; m < 3; m++) {
            for (int what = 0; what < 3; what++) {
                int machine = m, w = what;
                asksOnly("23 machine " + m + " in thought, what " + what, x -> x.replays(machine, 1, w));
            }
        }
    }

    private void replaysRefused() {
        for (int m : new int[] {-1, 3, 4, MIN, MAX}) {
            refuses("23 replays, machine " + m, BAD, x -> x.replays(m, 0, 0));
            refuses("23 machine " + m + " ahead of missing", BAD, x -> x.replays(m, 3, 0));
        }
        for (int s : NO_SHEETS) {
            refuses("23 replays, sheet " + s, BAD, x -> x.replays(0, s, 0));
        }
        for (int what : new int[] {-1, 3, MIN, MAX}) {
            refuses("23 replays, what " + what, BAD, x -> x.replays(0, 0, what));
            refuses("23 what " + what + " ahead of missing", BAD, x -> x.replays(0, 3, what));
        }
        for (int what = 0; what < 3; what++) {
            int w = what;
            refuses("23 replays, one that is missing", MISSING, x -> x.replays(0, 3, w));
        }
        refusesWithoutMachines("23 replays without machines", BAD, x -> x.replays(0, 0, 0));
        stays("23 replays of the fourth machine", 63, Edges::fill, x -> x.replays(3, 2, 1));
    }

    // ---- promise 24

    private void finds(String edge, String row, int kind, int cells, int want) {
        stays("24 search, " + edge, want, x -> bits(x, 3, row), x -> x.search(3, kind, cells));
    }

    private void searchSizes() {
        // A RING turns cells ahead of their being told: not every CARRY tells the first bits again.
        int[] ring = {100, 100, 102, 102, 110, 110};
        for (int cells = 1; cells <= 6; cells++) {
            for (int kind = 0; kind < 6; kind++) {
                finds("one bit too few for " + cells, "1".repeat(cells - 1), kind, cells, STATE);
                finds("just as many bits as " + cells, "1".repeat(cells), kind, cells, kind == 5 ? ring[cells - 1] : 100);
            }
        }
    }

    private void searchFirst() {
        // By hand of one cell: CARRYING tells minus twice its CARRY and STATE.
        finds("CARRY -9", "010010", 0, 1, 100);
        finds("CARRY 9", "011101", 0, 1, 118);
        finds("the least of many CARRIES", "00", 0, 1, 101);
        finds("the least of many CARRIES", "01", 0, 1, 100);
        finds("none", "0100000", 1, 1, NONE);
        // TAPS 2 with CARRY -8 would tell it, too.
        finds("TAPS ahead of CARRY", "0111100", 0, 2, 118);
        finds("TAPS 2", "0100011", 0, 2, 200 + 7 + 9);
        finds("LINEAR, the CARRY no matter", "1001011", 1, 3, 300);
    }

    private void searchLeastAndGreatest() {
        Making six = x -> {
            x.machine(0, 6, 63, 33);
            x.set(0, 1, 9);
            x.film(0, 0, 40);
        };
        answers("24 search, the greatest answer", 6318, six, x -> x.search(0, 0, 6));
        answers("24 search, none of five cells", NONE, six, x -> x.search(0, 0, 5));
        finds("the least answer", "0".repeat(6), 0, 6, 100);
        finds("40 bits", ZEROS, 0, 6, 109);
        finds("40 bits, LINEAR", ZEROS, 1, 6, 100);
        finds("40 bits, TURNED", ZEROS, 2, 6, NONE);
        finds("40 bits, the last otherwise", "0".repeat(39) + "1", 1, 6, NONE);
    }

    private void searchRefused() {
        for (int s : NO_SHEETS) {
            refuses("24 search, sheet " + s, BAD, x -> x.search(s, 0, 1));
        }
        for (int kind : new int[] {-1, 6, MIN, MAX}) {
            refuses("24 search, kind " + kind, BAD, x -> x.search(0, kind, 1));
            refuses("24 kind " + kind + " ahead of missing", BAD, x -> x.search(3, kind, 1));
            refuses("24 kind " + kind + " ahead of too few bits", BAD, x -> x.search(2, kind, 1));
        }
        for (int cells : new int[] {0, 7, -1, 33, MIN, MAX}) {
            refuses("24 search, cells " + cells, BAD, x -> x.search(0, 0, cells));
            refuses("24 cells " + cells + " ahead of missing", BAD, x -> x.search(3, 0, cells));
            refuses("24 cells " + cells + " ahead of too few bits", BAD, x -> x.search(2, 0, cells));
        }
        refuses("24 search, one that is missing", MISSING, x -> x.search(3, 0, 1));
        refuses("24 search, missing ahead of too few bits", MISSING, x -> x.search(3, 5, 6));
        refuses("24 search, too few bits", STATE, x -> x.search(2, 0, 1));
    }

    // ---- promise 25

    private void alikeCounts() {
        // 1s alone, of HELD ones only at first; TURNED 1 0.
        Making four = x -> {
            x.machine(1, 1, 1, 1);
            x.machine(4, 6, 63, 63);
            x.machine(0, 2, 1, 3);
            x.machine(2, 1, 1, 1);
        };
        stays("25 no steps: all", 15, four, x -> x.alike(3, 0));
        stays("25 one step: all", 15, four, x -> x.alike(3, 1));
        stays("25 two steps", 7, four, x -> x.alike(0, 2));
        stays("25 two steps, itself alone", 8, four, x -> x.alike(3, 2));
        stays("25 40 steps", 5, four, x -> x.alike(2, 40));
        stays("25 40 steps, itself alone", 8, four, x -> x.alike(3, 40));
        Making last = x -> {
            x.machine(1, 6, 1, 0);
            x.machine(1, 6, 1, 16);
        };
        stays("25 four steps alike", 3, last, x -> x.alike(0, 4));
        stays("25 the fifth step unlike", 1, last, x -> x.alike(0, 5));
        for (int m = 0; m < 3; m++) {
            int machine = m;
            asksOnly("25 in thought, machine " + m, x -> x.alike(machine, 39));
        }
        stays("25 one machine", 1, x -> x.machine(0, 1, 1, 0), x -> x.alike(0, 40));
    }

    private void alikeRefused() {
        for (int m : new int[] {-1, 3, 4, MIN, MAX}) {
            refuses("25 alike, machine " + m, BAD, x -> x.alike(m, 1));
        }
        for (int n : new int[] {-1, 41, MIN, MAX}) {
            refuses("25 alike, n " + n, BAD, x -> x.alike(0, n));
        }
        refusesWithoutMachines("25 alike without machines", BAD, x -> x.alike(0, 0));
    }

    // ---- promise 26

    private void drawnIs(String edge, String row, int seed, int n, int cells) {
        stays("26 drawn, " + edge, cells, x -> bits(x, 3, row), x -> x.drawn(3, seed, n));
    }

    /** All 0 but for bit i: L is i and 1. */
    private void drawnPlaces() {
        // z is 12345: 24 of 40.
        drawnIs("SEED 0", ZEROS, 0, 1, 25);
        // z is 1103527590: 2155327 modulo 40 is 7.
        drawnIs("SEED 1", ZEROS, 1, 1, 8);
        // z is 2207042835, as an int below 0: 4310630 modulo 40 is 30.
        drawnIs("z below 0", ZEROS, 2, 1, 31);
        // z is 3191464396, as an int below 0: 6233328 modulo 40 is 8.
        drawnIs("SEED -1", ZEROS, -1, 1, 9);
        drawnIs("the greatest SEED", ZEROS, MAX, 1, 25);
        drawnIs("the least SEED", ZEROS, MIN, 1, 9);
        drawnIs("the first of 40", ZEROS, 10, 1, 1);
        drawnIs("bit 31", ZEROS, 21, 1, 32);
        drawnIs("bit 32", ZEROS, 40, 1, 33);
        drawnIs("the last of 40", ZEROS, 42, 1, 40);
        drawnIs("of 5 bits", "00000", 0, 1, 5);
        drawnIs("of 3 bits", "000", 0, 1, 1);
    }

    private void drawnCounts() {
        asksOnly("26 drawn changes nothing", x -> x.drawn(0, 5, 7));
        asksOnly("27 chance changes nothing", x -> x.chance(0, 5, 20, 7, 3, 0));
        drawnIs("not spoilt", "0".repeat(39) + "1", 0, 0, 40);
        drawnIs("one bit, not spoilt", "0", 7, 0, 0);
        drawnIs("one bit, once", "0", 7, 1, 1);
        drawnIs("one bit, twice", "0", 7, 2, 0);
        drawnIs("one bit, 7 times", "0", 7, 7, 1);
        drawnIs("one bit, 8 times", "0", 7, 8, 0);
        drawnIs("one bit that is 1, once", "1", 7, 1, 0);
        drawnIs("one bit that is 1, 8 times", "1", 7, 8, 1);
        // By SEED 81 the place is 24 both times; by SEED 107 11 0 19 36 36 24 19 24.
        drawnIs("the same bit twice", ZEROS, 81, 2, 0);
        drawnIs("8 times, all 0 by it", "1" + "0".repeat(10) + "1" + "0".repeat(28), 107, 8, 0);
        drawnIs("7 times, 24 is left", "1" + "0".repeat(10) + "1" + "0".repeat(28), 107, 7, 25);
    }

    private void drawnRefused() {
        for (int s : NO_SHEETS) {
            refuses("26 drawn, sheet " + s, BAD, x -> x.drawn(s, 0, 0));
        }
        for (int n : new int[] {-1, 9, MIN, MAX}) {
            refuses("26 drawn, n " + n, BAD, x -> x.drawn(0, 0, n));
            refuses("26 n " + n + " ahead of missing", BAD, x -> x.drawn(3, 0, n));
            refuses("26 n " + n + " ahead of no bits", BAD, x -> x.drawn(2, 0, n));
        }
        refuses("26 drawn, one that is missing", MISSING, x -> x.drawn(3, 0, 0));
        refuses("26 drawn, no bits, not spoilt", STATE, x -> x.drawn(2, 0, 0));
        refuses("26 drawn, no bits, spoilt", STATE, x -> x.drawn(2, 0, 8));
    }

    // ---- promise 27

    private void chanceIs(String edge, int seed, int[] mnk, int above, int below) {
        Making zeros = x -> bits(x, 3, ZEROS);
        stays("27 above, " + edge, above, zeros, x -> x.chance(3, seed, mnk[0], mnk[1], mnk[2], 0));
        stays("27 below, " + edge, below, zeros, x -> x.chance(3, seed, mnk[0], mnk[1], mnk[2], 1));
    }

    /** By the places above: SEED 0 gives L 25, 1 gives 8, 2 gives 31, 3 gives 14. */
    private void chanceSeeds() {
        chanceIs("one seed, k just too little", 0, new int[] {1, 1, 24}, 0, 1);
        chanceIs("one seed, k just enough", 0, new int[] {1, 1, 25}, 1, 1);
        chanceIs("each 1 more", 0, new int[] {3, 1, 25}, 2, 3);
        chanceIs("each 1 more", 0, new int[] {3, 1, 24}, 1, 3);
        chanceIs("behind the greatest SEED comes the least", MAX, new int[] {2, 1, 24}, 1, 2);
        chanceIs("behind the greatest SEED comes the least", MAX, new int[] {2, 1, 8}, 0, 1);
        chanceIs("behind -1 comes 0", -1, new int[] {2, 1, 9}, 1, 2);
    }

    private void chanceLeastAndGreatest() {
        chanceIs("not spoilt, k 0", 5, new int[] {1, 0, 0}, 1, 1);
        chanceIs("20 seeds, not spoilt, k 0", 5, new int[] {20, 0, 0}, 1, 1);
        chanceIs("20 seeds, spoilt once, k 0", 5, new int[] {20, 1, 0}, 0, 1);
        chanceIs("20 seeds, spoilt 8 times, k 40", 5, new int[] {20, 8, 40}, 1, 1);
        answers("27 one bit, 8 times", 1, x -> bits(x, 0, "0"), x -> x.chance(0, MIN, 20, 8, 0, 0));
        answers("27 one bit, 7 times", 0, x -> bits(x, 0, "0"), x -> x.chance(0, MIN, 20, 7, 0, 0));
    }

    private void chanceLowestTerms() {
        chanceIs("0 by 1", 0, new int[] {4, 1, 7}, 0, 1);
        chanceIs("1 by 4", 0, new int[] {4, 1, 8}, 1, 4);
        chanceIs("2 by 4", 0, new int[] {4, 1, 14}, 1, 2);
        chanceIs("3 by 4", 0, new int[] {4, 1, 25}, 3, 4);
        chanceIs("4 by 4", 0, new int[] {4, 1, 31}, 1, 1);
    }

    private void chanceRefused() {
        for (int s : NO_SHEETS) {
            refuses("27 chance, sheet " + s, BAD, x -> x.chance(s, 0, 1, 0, 0, 0));
        }
        int[][] bad = {
            {0, 0, 0, 0}, {21, 0, 0, 0}, {-1, 0, 0, 0}, {MIN, 0, 0, 0}, {MAX, 0, 0, 0}, {1, -1, 0, 0}, {1, 9, 0, 0}, {1, MIN, 0, 0},
            {1, MAX, 0, 0}, {1, 0, -1, 0}, {1, 0, 41, 0}, {1, 0, MIN, 0}, {1, 0, MAX, 0}, {1, 0, 0, -1}, {1, 0, 0, 2}, {1, 0, 0, MIN},
            {1, 0, 0, MAX}
        };
        for (int[] b : bad) {
            String edge = "m " + b[0] + ", n " + b[1] + ", k " + b[2] + ", part " + b[3];
            refuses("27 chance, " + edge, BAD, x -> x.chance(0, 0, b[0], b[1], b[2], b[3]));
            refuses("27 ahead of missing, " + edge, BAD, x -> x.chance(3, 0, b[0], b[1], b[2], b[3]));
            refuses("27 ahead of no bits, " + edge, BAD, x -> x.chance(2, 0, b[0], b[1], b[2], b[3]));
        }
    }

    private void chanceOrder() {
        refuses("27 chance, one that is missing", MISSING, x -> x.chance(3, 0, 1, 0, 0, 0));
        refuses("27 chance, one that is missing", MISSING, x -> x.chance(3, 0, 20, 8, 40, 1));
        refuses("27 chance, no bits, not spoilt", STATE, x -> x.chance(2, 0, 1, 0, 0, 0));
        refuses("27 chance, no bits, spoilt", STATE, x -> x.chance(2, 0, 20, 8, 40, 1));
    }
}
