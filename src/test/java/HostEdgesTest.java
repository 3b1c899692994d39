/** The boundary cases of promises 30 to 36: the image, sheets, and machines by them. */
public final class HostEdgesTest extends Edges {
    public static void main(String[] args) {
        HostEdgesTest t = new HostEdgesTest();
        t.imageCounts();
        t.imageKeepsWhatWas();
        t.backWithoutImage();
        t.backOfNone();
        t.backOfFour();
        t.backAgain();
        t.backLeavesSheetsAndTape();
        t.loadCounts();
        t.loadPlaces();
        t.loadLeavesOut();
        t.loadWhatStoodAhead();
        t.loadSorts();
        t.loadRefused();
        t.loadOrder();
        t.countEdges();
        t.countRefused();
        t.sheetSizes();
        t.sheetAnew();
        t.sheetMissing();
        t.sheetRefused();
        t.sheetOrder();
        t.putPlaces();
        t.putShorts();
        t.putInts();
        t.putRefused();
        t.copyCounts();
        t.copyAsTheyWere();
        t.copyWholeNumbers();
        t.copyRefused();
        t.copyOutside();
        t.copyOrder();
        t.due.end();
    }

    // ---- promise 30

    private void imageCounts() {
        answers("30 image of no machines", 0, Edges::nothing, x -> x.image());
        for (int many = 1; many <= 4; many++) {
            int n = many;
            answers("30 image of " + many, many, x -> {
                for (int i = 0; i < n; i++) {
                    x.machine(i, 1, 1, 0);
                }
            }, x -> x.image());
        }
        CarryShifts x = made(Edges::fill);
        String now = Standing.of(made(y -> {
            fill(y);
            y.image();
        }));
        x.image();
        due.holds("30 all but the image is as it was", Standing.of(x).equals(now));
    }

    private void imageKeepsWhatWas() {
        CarryShifts x = made(Edges::fill);
        is("30 an image anew", x.image(), 4);
        x.step(0, 7);
        x.set(1, 0, 0);
        x.set(1, 1, 0);
        x.set(2, 3, 5);
        x.set(3, 2, 1);
        is("30 the image stays", x.back(), 4);
        stands("30 STATE and CARRY", x, 0, 3, -9);
        stands("30 STATE and CARRY", x, 1, 42, 9);
        is("30 KIND", x.of(2, 0), 2);
        is("30 TAPS", x.of(3, 2), 3);
        is("30 MADE", x.of(3, 5), 136);
        x.drop();
        x.drop();
        is("30 an image of fewer", x.image(), 2);
        x.machine(0, 1, 1, 1);
        is("30 back to fewer", x.back(), 2);
        is("30 none of those ahead", x.of(2, 0), REFUSED);
    }

    // ---- promise 31

    private void backWithoutImage() {
        stays("31 back on a new object", STATE, Edges::nothing, x -> x.back());
        stays("31 back without an image", STATE, x -> {
            x.machine(0, 3, 5, 3);
            x.set(0, 1, -9);
            feed(x, "drop");
            x.sheet(0, SHORTS, 3);
        }, x -> x.back());
    }

    private void backOfNone() {
        CarryShifts x = new CarryShifts();
        x.image();
        is("31 back of no machines, none there", x.back(), 0);
        for (int i = 0; i < 4; i++) {
            x.machine(0, 1, 1, 1);
        }
        is("31 back of no machines, four there", x.back(), 0);
        is("31 no machines", x.count(0), 0);
        is("31 none is left", x.of(0, 0), REFUSED);
        is("31 the first comes", x.machine(1, 2, 3, 0), 0);
    }

    private void backOfFour() {
        CarryShifts x = made(Edges::fill);
        x.set(1, 1, -1);
        x.step(1, 1);
        int carry = x.of(1, 4);
        int state = x.of(1, 3);
        due.holds("31 a CARRY beyond 9", carry > 9);
        x.image();
        dropAll(x);
        is("31 back of four, none there", x.back(), 4);
        stands("31 a CARRY beyond 9", x, 1, state, carry);
        stands("31 a CARRY below 0", x, 0, 3, -9);
        int[] due3 = {3, 2, 3, 1, 0, 136, 5};
        for (int what = 0; what < due3.length; what++) {
            is("31 the fourth, what " + what, x.of(3, what), due3[what]);
        }
        is("31 full again", x.machine(0, 1, 1, 0), FULL);
    }

    private void backAgain() {
        CarryShifts x = made(Edges::furnish);
        int[] kept = {3, 4, 11, 6, 7};
        for (int time = 0; time < 3; time++) {
            is("31 back, time " + time, x.back(), 1);
            for (int what = 0; what < kept.length; what++) {
                is("31 time " + time + ", what " + what, x.of(0, what), kept[what]);
            }
            x.step(0, 5);
            x.set(0, 2, 1);
            x.set(0, 3, 0);
            x.set(0, 1, -5);
            x.machine(0, 1, 1, 1);
        }
    }

    private void backLeavesSheetsAndTape() {
        CarryShifts x = made(Edges::furnish);
        x.back();
        holds("31 sheet 0 stays", x, 0, SHORTS, 9, 0b101111010);
        holds("31 sheet 1 stays", x, 1, INTS, 30, 0b11100101);
        is("31 sheet 3 stays missing", x.number(3), NO);
        is("31 the tape stays", x.count(1), 29);
        x.sheet(0, NONE, 0);
        x.back();
        is("31 a sheet that is missing stays so", x.number(0), NO);
    }

    // ---- promise 32

    /** Sheet 0 of ints: n machines one behind the other, their KINDS 0 1 2 .., of 1 2 3 .. cells. */
    private static void ranks(CarryShifts x, int n) {
        x.sheet(0, INTS, 4 * n);
        for (int i = 0; i < n; i++) {
            x.put(0, 4 * i, i % 6);
            x.put(0, 4 * i + 1, i % 6 + 1);
            x.put(0, 4 * i + 2, 1);
            x.put(0, 4 * i + 3, 1);
        }
    }

    private void loadCounts() {
        for (int n = 0; n <= 4; n++) {
            int many = n;
            CarryShifts x = made(y -> ranks(y, 4));
            is("32 load " + n, x.load(0, INTS, 0, many), n);
            is("32 machines", x.count(0), n);
            is("32 the latest", x.of(n - 1, 0), n == 0 ? REFUSED : n - 1);
            is("32 its CELLS", x.of(n - 1, 1), n == 0 ? REFUSED : n);
        }
        CarryShifts x = made(y -> {
            y.machine(5, 6, 63, 63);
            ranks(y, 2);
        });
        is("32 load behind those that are there", x.load(0, INTS, 0, 2), 2);
        is("32 the first stays", x.of(0, 0), 5);
        is("32 the next", x.of(1, 0), 0);
        is("32 CARRY is 0", x.of(2, 4), 0);
    }

    private void loadPlaces() {
        Making ten = x -> ranks(x, 10);
        answers("32 from 0", 1, ten, x -> x.load(0, INTS, 0, 1));
        answers("32 from the last that has room", 1, ten, x -> x.load(0, INTS, 36, 1));
        stays("32 from one beyond it", OUTSIDE, ten, x -> x.load(0, INTS, 37, 1));
        answers("32 from 24, all four", 4, ten, x -> x.load(0, INTS, 24, 4));
        answers("32 from 25, the fourth is outside", OUTSIDE, ten, x -> x.load(0, INTS, 25, 4));
        for (int from : new int[] {-1, -4, 38, 39, 40, 41, MIN, MAX, MAX - 3, MAX - 15}) {
            stays("32 from " + from, OUTSIDE, ten, x -> x.load(0, INTS, from, 1));
            stays("32 from " + from + ", four", OUTSIDE, ten, x -> x.load(0, INTS, from, 4));
        }
        stays("32 of the empty sheet", OUTSIDE, Edges::furnish, x -> x.load(2, SHORTS, 0, 1));
        stays("32 none of the empty sheet", 0, Edges::furnish, x -> x.load(2, SHORTS, 0, 0));
        for (int size = 0; size < 4; size++) {
            int n = size;
            stays("32 of " + size + " numbers", OUTSIDE, x -> x.sheet(0, SHORTS, n), x -> x.load(0, SHORTS, 0, 1));
        }
        answers("32 of 4 numbers", 1, x -> row(x, 0, SHORTS, 0, 1, 1, 0), x -> x.load(0, SHORTS, 0, 1));
    }

    private void loadLeavesOut() {
        int[][] refused = {{-1, 1, 1, 0}, {6, 1, 1, 0}, {0, 0, 1, 0}, {0, 7, 1, 0}, {0, 2, 0, 0}, {0, 2, 4, 0}, {0, 2, 1, -1}, {0, 2, 1, 4}};
        for (int[] r : refused) {
            stays("32 left out", 0, x -> row(x, 0, SHORTS, r), x -> x.load(0, SHORTS, 0, 1));
            CarryShifts x = made(y -> row(y, 0, INTS, r[0], r[1], r[2], r[3], 5, 6, 63, 63));
            is("32 one left out, the other comes", x.load(0, INTS, 0, 2), 1);
            is("32 the other comes", x.of(0, 0), 5);
        }
        CarryShifts x = made(y -> {
            y.machine(0, 1, 1, 0);
            y.machine(0, 1, 1, 0);
            ranks(y, 4);
        });
        is("32 those that have no room are left out", x.load(0, INTS, 0, 4), 2);
        is("32 machines", x.count(0), 4);
        stays("32 all are left out", 0, y -> {
            fill(y);
            ranks(y, 4);
        }, y -> y.load(0, INTS, 0, 4));
    }

    private void loadWhatStoodAhead() {
        CarryShifts x = made(y -> ranks(y, 2));
        is("32 the third is outside", x.load(0, INTS, 0, 3), OUTSIDE);
        is("32 what stood ahead came", x.count(0), 2);
        CarryShifts y = made(z -> row(z, 0, SHORTS, 3, 2, 1, 1, 0, 1, 1));
        is("32 the second is outside by its last number", y.load(0, SHORTS, 0, 2), OUTSIDE);
        is("32 what stood ahead came", y.count(0), 1);
        is("32 its KIND", y.of(0, 0), 3);
        stays("32 outside, though there is no room", OUTSIDE, z -> {
            fill(z);
            ranks(z, 2);
        }, z -> z.load(0, INTS, 0, 3));
    }

    private void loadSorts() {
        refuses("32 shorts taken for ints", UNLIKE, x -> x.load(0, INTS, 0, 1));
        refuses("32 ints taken for shorts", UNLIKE, x -> x.load(1, SHORTS, 0, 1));
        refuses("32 shorts taken for ints, n 0", UNLIKE, x -> x.load(0, INTS, 0, 0));
        refuses("32 ints taken for shorts, n 0", UNLIKE, x -> x.load(1, SHORTS, 0, 0));
        refuses("32 the empty one taken for ints", UNLIKE, x -> x.load(2, INTS, 0, 0));
        for (int sort = 0; sort < 2; sort++) {
            int as = sort;
            refuses("32 missing, taken for sort " + sort, MISSING, x -> x.load(3, as, 0, 1));
            refuses("32 missing, taken for sort " + sort + ", n 0", MISSING, x -> x.load(3, as, 0, 0));
        }
    }

    private void loadRefused() {
        for (int s : NO_SHEETS) {
            refuses("32 load of sheet " + s, BAD, x -> x.load(s, 0, 0, 0));
        }
        for (int sort : new int[] {-1, 2, MIN, MAX}) {
            refuses("32 load, sort " + sort, BAD, x -> x.load(0, sort, 0, 0));
        }
        for (int n : new int[] {-1, 5, MIN, MAX}) {
            refuses("32 load, n " + n, BAD, x -> x.load(0, SHORTS, 0, n));
        }
    }

    private void loadOrder() {
        refuses("32 sort ahead of missing", BAD, x -> x.load(3, 2, 0, 0));
        refuses("32 sort ahead of missing", BAD, x -> x.load(3, -1, 0, 0));
        refuses("32 n ahead of missing", BAD, x -> x.load(3, SHORTS, 0, 5));
        refuses("32 n ahead of another sort", BAD, x -> x.load(0, INTS, 0, 5));
        refuses("32 n ahead of a place outside", BAD, x -> x.load(0, SHORTS, -1, 5));
        refuses("32 missing ahead of a place outside", MISSING, x -> x.load(3, SHORTS, -1, 1));
        refuses("32 another sort ahead of a place outside", UNLIKE, x -> x.load(0, INTS, -1, 1));
        refuses("32 another sort ahead of a place outside", UNLIKE, x -> x.load(0, INTS, 99, 4));
    }

    // ---- promise 33

    private void countEdges() {
        int[] furnished = {3, 29, 10, 4, 6};
        int[] full = {4, 29, 12, 4, 6};
        for (int what = 0; what < 5; what++) {
            int w = what;
            stays("33 count(" + what + ") of none", 0, Edges::nothing, x -> x.count(w));
            stays("33 count(" + what + ")", furnished[what], Edges::furnish, x -> x.count(w));
            stays("33 count(" + what + "), full", full[what], Edges::fill, x -> x.count(w));
        }
        int[][] due = {{0, 0}, {15, 0}, {15, 0}, {0, 0}, {0, 0}, {0, 24}};
        for (int kind = 0; kind < 6; kind++) {
            int k = kind;
            Making four = x -> {
                for (int i = 0; i < 4; i++) {
                    x.machine(k, 6, 63, 63);
                }
            };
            answers("33 CELLS of four", 24, four, x -> x.count(2));
            answers("33 LINEAR and TURNED of KIND " + kind, due[kind][0], four, x -> x.count(3));
            answers("33 CELLS of RINGS of KIND " + kind, due[kind][1], four, x -> x.count(4));
        }
        answers("33 a full tape", 60, x -> feed(x, " ".repeat(60)), x -> x.count(1));
        CarryShifts x = made(Edges::fill);
        x.set(3, 3, 1);
        is("33 LINEAR and TURNED, as the fourth becomes LINEAR", x.count(3), 12);
        x.set(0, 3, 5);
        is("33 CELLS of RINGS, as the first becomes one", x.count(4), 9);
        x.drop();
        is("33 LINEAR and TURNED behind a drop", x.count(3), 4);
        is("33 CELLS behind a drop", x.count(2), 10);
    }

    private void countRefused() {
        for (int what : new int[] {-1, 5, MIN, MAX}) {
            refuses("33 count, what " + what, BAD, x -> x.count(what));
            stays("33 count of none, what " + what, BAD, Edges::nothing, x -> x.count(what));
        }
    }

    // ---- promise 34

    private void sheetSizes() {
        for (int sort = 0; sort < 2; sort++) {
            for (int n : new int[] {0, 1, 39, 40}) {
                for (int s : new int[] {0, 3}) {
                    CarryShifts x = new CarryShifts();
                    is("34 sheet " + s + " of " + n, x.sheet(s, sort, n), 1);
                    holds("34 sheet " + s + " of " + n, x, s, sort, n, 0);
                    is("34 of another sort", x.load(s, 1 - sort, 0, 0), UNLIKE);
                    is("34 one beyond its end", x.put(s, n, 1), OUTSIDE);
                }
            }
        }
    }

    private void sheetAnew() {
        for (int sort = 0; sort < 2; sort++) {
            CarryShifts x = made(y -> bits(y, 0, "1".repeat(40)));
            is("34 sheet anew", x.sheet(0, sort, 40), 1);
            holds("34 all 0 anew", x, 0, sort, 40, 0);
            CarryShifts z = made(y -> bits(y, 0, "1".repeat(40)));
            z.sheet(0, sort, 2);
            z.sheet(0, sort, 40);
            holds("34 all 0, once shorter", z, 0, sort, 40, 0);
        }
        CarryShifts x = made(y -> row(y, 0, INTS, 2, 2, 2, 2));
        x.sheet(0, INTS, 4);
        x.put(0, 1, 1);
        x.put(0, 2, 1);
        is("34 all 0, not by the lowest bit alone", x.load(0, INTS, 0, 1), 1);
        is("34 its KIND", x.of(0, 0), 0);
        is("34 its STATE", x.of(0, 3), 0);
        CarryShifts others = made(Edges::furnish);
        others.sheet(2, INTS, 7);
        holds("34 others stay", others, 0, SHORTS, 9, others.number(0));
        is("34 others stay missing", others.number(3), NO);
    }

    private void sheetMissing() {
        for (int n : new int[] {0, 1, 40, 41, -1, MIN, MAX}) {
            for (int s = 0; s < 4; s++) {
                CarryShifts x = made(Edges::furnish);
                is("34 missing, n " + n, x.sheet(s, NONE, n), 1);
                is("34 missing, n " + n, x.number(s), NO);
                is("34 missing, n " + n, x.put(s, 0, 0), MISSING);
            }
        }
    }

    private void sheetRefused() {
        for (int s : NO_SHEETS) {
            refuses("34 sheet " + s, BAD, x -> x.sheet(s, SHORTS, 1));
            refuses("34 sheet " + s + ", missing", BAD, x -> x.sheet(s, NONE, 1));
        }
        for (int sort : new int[] {-2, 2, MIN, MAX}) {
            refuses("34 sort " + sort, BAD, x -> x.sheet(0, sort, 1));
        }
        for (int sort = 0; sort < 2; sort++) {
            int as = sort;
            for (int n : new int[] {41, MAX}) {
                refuses("34 n " + n, BAD, x -> x.sheet(0, as, n));
            }
            for (int n : new int[] {-1, -2, MIN}) {
                refuses("34 n " + n, BELOW, x -> x.sheet(0, as, n));
            }
        }
    }

    private void sheetOrder() {
        refuses("34 no such SHEET ahead of n below 0", BAD, x -> x.sheet(4, SHORTS, -1));
        refuses("34 no such SHEET ahead of n below 0", BAD, x -> x.sheet(-1, INTS, -1));
        refuses("34 sort ahead of n below 0", BAD, x -> x.sheet(0, 2, -1));
        refuses("34 sort ahead of n below 0", BAD, x -> x.sheet(0, -2, -1));
    }

    // ---- promise 35

    private void putPlaces() {
        for (int sort = 0; sort < 2; sort++) {
            int as = sort;
            CarryShifts x = made(y -> y.sheet(3, as, 40));
            is("35 put at 0", x.put(3, 0, 1), 1);
            is("35 put at 39", x.put(3, 39, 1), 1);
            holds("35 put at both ends", x, 3, sort, 40, 1 | 1L << 39);
            is("35 put 0 again", x.put(3, 0, 0), 1);
            is("35 put 0 again", x.number(3), 1L << 39);
        }
        for (int i : new int[] {-1, 9, 40, MIN, MAX}) {
            refuses("35 put at " + i + " of 9", OUTSIDE, x -> x.put(0, i, 0));
        }
        refuses("35 put at 30 of 30 ints", OUTSIDE, x -> x.put(1, 30, 1));
        answers("35 put at 29 of 30 ints", 1, Edges::furnish, x -> x.put(1, 29, 1));
        refuses("35 put at 0 of none", OUTSIDE, x -> x.put(2, 0, 1));
        answers("35 put at 8 of 9", 1, Edges::furnish, x -> x.put(0, 8, 1));
    }

    /** What a short holds is seen by the machine that comes by it: here its KIND, then its STATE. */
    private void putShorts() {
        int[][] kinds = {{5, 5}, {65536 + 5, 5}, {-65536 + 5, 5}, {MIN + 5, 5}, {32768 * 4 + 3, 3}, {65536, 0}, {0x7FFF0001, 1}};
        for (int[] k : kinds) {
            CarryShifts x = made(y -> row(y, 0, SHORTS, k[0], 1, 1, 1));
            is("35 its lowest 16 bits: " + k[0], x.load(0, SHORTS, 0, 1), 1);
            is("35 KIND by " + k[0], x.of(0, 0), k[1]);
        }
        int[] none = {65535, 32768, 32767, -1, MAX, 0x10006};
        for (int v : none) {
            stays("35 none by " + v, 0, x -> row(x, 0, SHORTS, v, 1, 1, 1), x -> x.load(0, SHORTS, 0, 1));
        }
    }

    private void putInts() {
        int[] none = {65536 + 5, -65536 + 5, MIN, MAX, -1, 65535, 1 << 31 | 5};
        for (int v : none) {
            stays("35 an int is whole: " + v, 0, x -> row(x, 0, INTS, v, 1, 1, 1), x -> x.load(0, INTS, 0, 1));
        }
        answers("35 an int", 1, x -> row(x, 0, INTS, 5, 1, 1, 1), x -> x.load(0, INTS, 0, 1));
    }

    private void putRefused() {
        for (int s : NO_SHEETS) {
            refuses("35 put on sheet " + s, BAD, x -> x.put(s, 0, 1));
            refuses("35 no such SHEET ahead of a place outside: " + s, BAD, x -> x.put(s, -1, 1));
        }
        refuses("35 put on one that is missing", MISSING, x -> x.put(3, 0, 1));
        refuses("35 missing ahead of a place outside", MISSING, x -> x.put(3, -1, 1));
        refuses("35 missing ahead of a place outside", MISSING, x -> x.put(3, 40, 1));
    }

    // ---- promise 36

    private static void two(CarryShifts x) {
        bits(x, 0, "1".repeat(40));
        bits(x, 1, "0".repeat(40));
        bits(x, 2, "10110");
    }

    private void copyCounts() {
        CarryShifts x = made(HostEdgesTest::two);
        stays("36 copy of none", 0, HostEdgesTest::two, y -> y.copy(0, 0, 1, 0, 0));
        stays("36 copy of none, at both ends", 0, HostEdgesTest::two, y -> y.copy(0, 40, 1, 40, 0));
        is("36 copy of one", x.copy(0, 39, 1, 0, 1), 1);
        is("36 copy of one", x.number(1), 1);
        is("36 copy of one, to the end", x.copy(0, 0, 1, 39, 1), 1);
        is("36 copy of one, to the end", x.number(1), 1 | 1L << 39);
        is("36 copy of all", x.copy(0, 0, 1, 0, 40), 40);
        is("36 copy of all", x.number(1), (1L << 40) - 1);
        is("36 the row copied stays", x.number(0), (1L << 40) - 1);
        is("36 copy into the middle", x.copy(2, 0, 1, 10, 5), 5);
        is("36 copy into the middle", x.number(1), (1L << 40) - 1 - (0b10010L << 10));
        stays("36 copy of none, from the empty sheet to itself", 0, Edges::furnish, y -> y.copy(2, 0, 2, 0, 0));
    }

    private void copyAsTheyWere() {
        CarryShifts on = made(x -> bits(x, 0, "1011000"));
        is("36 onto itself, on by one", on.copy(0, 0, 0, 1, 6), 6);
        is("36 onto itself, on by one", on.number(0), 0b0011011);
        CarryShifts back = made(x -> bits(x, 0, "1011001"));
        is("36 onto itself, back by one", back.copy(0, 1, 0, 0, 6), 6);
        is("36 onto itself, back by one", back.number(0), 0b1100110);
        CarryShifts far = made(x -> bits(x, 3, "10000000"));
        far.copy(3, 0, 3, 2, 6);
        is("36 onto itself, on by two", far.number(3), 0b101);
        stays("36 onto its own place", 9, Edges::furnish, x -> x.copy(0, 0, 0, 0, 9));
    }

    private void copyWholeNumbers() {
        CarryShifts ints = made(x -> {
            row(x, 0, INTS, 65536 + 5, 6, 63, 62);
            row(x, 1, INTS, 5, 1, 1, 1);
        });
        ints.copy(0, 1, 1, 1, 3);
        is("36 whole ints", ints.load(1, INTS, 0, 1), 1);
        is("36 whole ints: STATE", ints.of(0, 3), 62);
        ints.copy(0, 0, 1, 0, 1);
        is("36 whole ints, beyond 16 bits", ints.load(1, INTS, 0, 1), 0);
        CarryShifts shorts = made(x -> {
            row(x, 2, SHORTS, 4, 6, 63, 62);
            x.sheet(3, SHORTS, 5);
        });
        is("36 shorts", shorts.copy(2, 0, 3, 1, 4), 4);
        is("36 shorts", shorts.load(3, SHORTS, 1, 1), 1);
        is("36 shorts: TAPS", shorts.of(0, 2), 63);
    }

    private void copyRefused() {
        for (int s : NO_SHEETS) {
            refuses("36 copy of sheet " + s, BAD, x -> x.copy(s, 0, 0, 0, 1));
            refuses("36 copy to sheet " + s, BAD, x -> x.copy(0, 0, s, 0, 1));
        }
        refuses("36 copy of one that is missing", MISSING, x -> x.copy(3, 0, 0, 0, 1));
        refuses("36 copy to one that is missing", MISSING, x -> x.copy(0, 0, 3, 0, 1));
        refuses("36 copy of none, missing", MISSING, x -> x.copy(3, 0, 3, 0, 0));
        refuses("36 shorts to ints", UNLIKE, x -> x.copy(0, 0, 1, 0, 1));
        refuses("36 ints to shorts", UNLIKE, x -> x.copy(1, 0, 0, 0, 1));
        refuses("36 copy of none, unlike sorts", UNLIKE, x -> x.copy(1, 0, 0, 0, 0));
    }

    /** Sheet 0 has 40, sheet 2 has 5. */
    private void copyOutside() {
        int[][] outside = {
            {-1, 0, 1}, {0, -1, 1}, {0, 0, -1}, {36, 0, 5}, {40, 0, 1}, {41, 0, 1}, {0, 1, 5}, {0, 5, 1}, {0, 0, 6}, {0, 0, 41}, {-1, 0, 6},
            {-1, 0, 0}, {0, -1, 0}, {41, 0, 0}, {0, 6, 0}, {MIN, 0, 1}, {MAX, 0, 1}, {0, MIN, 1}, {0, MAX, 1}, {0, 0, MIN}, {0, 0, MAX},
            {1, 0, MAX}, {0, 1, MAX}, {MAX, MAX, MAX}, {MIN, MIN, MIN}, {MAX, 0, 0}, {0, MAX, 0}, {40, 5, -1}, {5, 5, -5}
        };
        for (int[] o : outside) {
            stays("36 copy from " + o[0] + " to " + o[1] + ", " + o[2], OUTSIDE, HostEdgesTest::two, x -> x.copy(0, o[0], 2, o[1], o[2]));
        }
        answers("36 just inside", 5, HostEdgesTest::two, x -> x.copy(0, 35, 2, 0, 5));
        answers("36 just inside", 1, HostEdgesTest::two, x -> x.copy(0, 39, 2, 4, 1));
        stays("36 of the empty sheet", OUTSIDE, Edges::furnish, x -> x.copy(2, 0, 0, 0, 1));
        stays("36 to the empty sheet", OUTSIDE, Edges::furnish, x -> x.copy(0, 0, 2, 0, 1));
    }

    private void copyOrder() {
        refuses("36 no such SHEET ahead of missing", BAD, x -> x.copy(4, 0, 3, 0, 1));
        refuses("36 no such SHEET ahead of missing", BAD, x -> x.copy(3, 0, 4, 0, 1));
        refuses("36 no such SHEET ahead of a place outside", BAD, x -> x.copy(0, -1, 4, 0, 1));
        refuses("36 no such SHEET ahead of n below 0", BAD, x -> x.copy(-1, 0, 0, 0, -1));
        refuses("36 missing ahead of a place outside", MISSING, x -> x.copy(3, -1, 0, 0, 1));
        refuses("36 missing ahead of a place outside", MISSING, x -> x.copy(0, 99, 3, 0, 1));
        refuses("36 missing ahead of n below 0", MISSING, x -> x.copy(0, 0, 3, 0, -1));
        refuses("36 missing ahead of unlike sorts", MISSING, x -> x.copy(3, 0, 1, 0, 1));
        refuses("36 unlike sorts ahead of a place outside", UNLIKE, x -> x.copy(0, -1, 1, 0, 1));
        refuses("36 unlike sorts ahead of a place outside", UNLIKE, x -> x.copy(1, 0, 0, 99, 1));
        refuses("36 unlike sorts ahead of n below 0", UNLIKE, x -> x.copy(0, 0, 1, 0, -1));
    }
}
