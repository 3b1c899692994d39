/** The boundary cases of promises 9 to 13: rows that machines and fractions tell, their numbers, how soon they come round. */
public final class RowEdgesTest extends Edges {
    private static final long ALL_40 = (1L << 40) - 1;

    public static void main(String[] args) {
        RowEdgesTest t = new RowEdgesTest();
        t.filmCounts();
        t.filmMakesShorts();
        t.filmIsThought();
        t.filmRefused();
        t.mixOfNone();
        t.mixSets();
        t.mixCounts();
        t.mixCarries();
        t.mixIsThought();
        t.mixRefused();
        t.numberSizes();
        t.numberLowestBits();
        t.numberRefused();
        t.expandCounts();
        t.expandParts();
        t.expandMakesShorts();
        t.expandRefused();
        t.expandOrder();
        t.periodRoundAtOnce();
        t.periodParts();
        t.periodRefused();
        t.periodOrder();
        t.due.end();
    }

    // ---- promise 9

    private void filmCounts() {
        CarryShifts x = made(y -> y.machine(0, 1, 1, 1));
        is("9 film of no step", x.film(0, 0, 0), 0);
        holds("9 film of no step", x, 0, SHORTS, 0, 0);
        is("9 film of one step", x.film(0, 0, 1), 1);
        holds("9 film of one step", x, 0, SHORTS, 1, 1);
        is("9 film of 40 steps", x.film(0, 0, 40), 40);
        holds("9 film of 40 steps", x, 0, SHORTS, 40, ALL_40);
        is("9 film on the last sheet", x.film(3, 0, 39), 39);
        holds("9 film on the last sheet", x, 3, SHORTS, 39, ALL_40 >> 1);
        is("9 film, shorter than before", x.film(0, 0, 2), 2);
        holds("9 film, shorter than before", x, 0, SHORTS, 2, 3);
        answers("9 film of the fourth machine", 5, Edges::fill, y -> y.film(0, 3, 5));
    }

    private void filmMakesShorts() {
        for (int sheet = 0; sheet < 4; sheet++) {
            CarryShifts x = made(Edges::furnish);
            is("9 film on sheet " + sheet, x.film(sheet, 2, 3), 3);
            // TURNED, one cell, tapped: 1 0 1.
            holds("9 film on sheet " + sheet, x, sheet, SHORTS, 3, 5);
            is("9 no ints", x.load(sheet, INTS, 0, 0), UNLIKE);
        }
    }

    private void filmIsThought() {
        CarryShifts x = made(Edges::furnish);
        x.film(0, 0, 40);
        stands("9 in thought", x, 0, 3, -9);
        x.film(0, 1, 40);
        stands("9 in thought, a RING", x, 1, 42, 9);
    }

    private void filmRefused() {
        for (int s : NO_SHEETS) {
            refuses("9 film on sheet " + s, BAD, x -> x.film(s, 0, 1));
        }
        for (int m : new int[] {-1, 3, 4, MIN, MAX}) {
            refuses("9 film of machine " + m, BAD, x -> x.film(0, m, 1));
        }
        for (int n : new int[] {-1, 41, MIN, MAX}) {
            refuses("9 film of " + n + " steps", BAD, x -> x.film(0, 0, n));
        }
        refusesWithoutMachines("9 film without machines", BAD, x -> x.film(0, 0, 0));
    }

    // ---- promise 10

    private void mixOfNone() {
        for (int is = 0; is < 2; is++) {
            int carried = is;
            CarryShifts x = made(Edges::fill);
            is("10 mix of none", x.mix(1, 0, 40, carried), 40);
            holds("10 mix of none", x, 1, SHORTS, 40, 0);
            CarryShifts y = new CarryShifts();
            is("10 mix without machines", y.mix(3, 0, 2, carried), 2);
            holds("10 mix without machines", y, 3, SHORTS, 2, 0);
            stays("10 mix of one that is none", BAD, Edges::nothing, z -> z.mix(0, 1, 2, carried));
        }
    }

    private void mixSets() {
        for (int machines = 1; machines <= 4; machines++) {
            int many = machines, all = (1 << machines) - 1;
            Making some = x -> {
                furnish(x);
                dropAll(x);
                for (int i = 0; i < many; i++) {
                    x.machine(1, 1, 1, 1);
                }
            };
            answers("10 mix of all " + many, 3, some, x -> x.mix(0, all, 3, 0));
            answers("10 mix of the latest", 7, some, x -> x.mix(0, 1 << many - 1, 3, 0) + x.number(0) - 3);
            for (int set : new int[] {all + 1, -1, all | 1 << 30, MIN, MAX}) {
                stays("10 mix of set " + set + " of " + many, BAD, some, x -> x.mix(0, set, 3, 0));
            }
        }
    }

    private void mixCounts() {
        CarryShifts x = made(y -> y.machine(0, 1, 1, 1));
        for (int is = 0; is < 2; is++) {
            is("10 mix of no step", x.mix(0, 1, 0, is), 0);
            holds("10 mix of no step", x, 0, SHORTS, 0, 0);
            is("10 mix of 40 steps", x.mix(0, 1, 40, is), 40);
            holds("10 mix of 40 steps", x, 0, SHORTS, 40, ALL_40);
        }
        for (int sheet = 0; sheet < 4; sheet++) {
            CarryShifts y = made(Edges::furnish);
            is("10 mix on sheet " + sheet, y.mix(sheet, 4, 3, 1), 3);
            holds("10 mix on sheet " + sheet, y, sheet, SHORTS, 3, 5);
        }
    }

    /** Four machines that tell 1s alone: 4 times (2 to the n, less 1) where it is carried. */
    private void mixCarries() {
        Making four = x -> {
            for (int i = 0; i < 4; i++) {
                x.machine(1, 1, 1, 1);
            }
        };
        CarryShifts x = made(four);
        x.mix(0, 15, 5, 1);
        is("10 what is carried is above 1", x.number(0), 4 * 31 % 32);
        x.mix(0, 15, 5, 1);
        is("10 what is carried is 0 at first, once more", x.number(0), 4 * 31 % 32);
        x.mix(0, 7, 40, 1);
        is("10 three carried", x.number(0), 3 * ALL_40 & ALL_40);
        x.mix(0, 7, 40, 0);
        is("10 three not carried", x.number(0), ALL_40);
        x.mix(0, 3, 40, 1);
        is("10 two carried", x.number(0), ALL_40 - 1);
        x.mix(0, 15, 40, 0);
        is("10 four not carried", x.number(0), 0);
    }

    private void mixIsThought() {
        CarryShifts x = made(Edges::fill);
        x.mix(0, 15, 40, 1);
        stands("10 in thought", x, 0, 3, -9);
        stands("10 in thought", x, 1, 42, 9);
        stands("10 in thought", x, 3, 1, 0);
    }

    private void mixRefused() {
        for (int s : NO_SHEETS) {
            refuses("10 mix on sheet " + s, BAD, x -> x.mix(s, 1, 1, 1));
        }
        for (int set : new int[] {-1, 8, MIN, MAX}) {
            refuses("10 mix of set " + set, BAD, x -> x.mix(0, set, 1, 1));
        }
        for (int n : new int[] {-1, 41, MIN, MAX}) {
            refuses("10 mix of " + n + " steps", BAD, x -> x.mix(0, 1, n, 1));
        }
        for (int is : new int[] {-1, 2, MIN, MAX}) {
            refuses("10 mix, is " + is, BAD, x -> x.mix(0, 1, 1, is));
        }
    }

    // ---- promise 11

    private void numberSizes() {
        stays("11 number of the empty row", 0, Edges::furnish, x -> x.number(2));
        stays("11 number of 40 bits", ALL_40, x -> bits(x, 3, "1".repeat(40)), x -> x.number(3));
        stays("11 number of the last bit of 40", 1L << 39, x -> bits(x, 0, "0".repeat(39) + "1"), x -> x.number(0));
        stays("11 number of bit 31", 1L << 31, x -> bits(x, 0, "0".repeat(31) + "1"), x -> x.number(0));
        stays("11 number of the first bit", 1, x -> bits(x, 0, "10"), x -> x.number(0));
    }

    private void numberLowestBits() {
        stays("11 ints count by their lowest bit", 0b10101, x -> row(x, 0, INTS, MAX, MIN, -1, 2, 65537), x -> x.number(0));
        stays("11 shorts count by their lowest bit", 0b01011, x -> row(x, 0, SHORTS, 32767, -1, -2, 65537, 65536), x -> x.number(0));
    }

    private void numberRefused() {
        for (int s : NO_SHEETS) {
            refuses("11 number of sheet " + s, NO, x -> x.number(s));
        }
        refuses("11 number of one that is missing", NO, x -> x.number(3));
        stays("11 number of one that is missing again", NO, x -> {
            furnish(x);
            x.sheet(0, NONE, 0);
        }, x -> x.number(0));
    }

    // ---- promise 12

    private void expands(String edge, int p, int q, int n, long number) {
        CarryShifts x = new CarryShifts();
        is("12 " + edge, x.expand(3, p, q, n), n);
        holds("12 " + edge, x, 3, SHORTS, n, number);
    }

    private void expandCounts() {
        expands("no digit", 5, 7, 0, 0);
        expands("one digit", 5, 7, 1, 1);
        expands("40 digits", -1, 1, 40, ALL_40);
        // 1/3 is 1 and -2/3, whose digits are 0 1 0 1 ..
        expands("40 digits", 1, 3, 40, 1 + 2 * (ALL_40 / 3) & ALL_40);
    }

    private void expandParts() {
        expands("p 9999", 9999, 1, 40, 9999);
        expands("p -9999", -9999, 1, 40, ALL_40 - 9998);
        expands("p 0", 0, 9999, 40, 0);
        expands("q 9999", 9999, 9999, 40, 1);
        expands("p -9999, q 9999", -9999, 9999, 40, ALL_40);
        expands("q 1", 1, 1, 40, 1);
    }

    private void expandMakesShorts() {
        for (int sheet = 0; sheet < 4; sheet++) {
            CarryShifts x = made(Edges::furnish);
            is("12 expand on sheet " + sheet, x.expand(sheet, 6, 1, 3), 3);
            holds("12 expand on sheet " + sheet, x, sheet, SHORTS, 3, 6);
            is("12 no ints", x.load(sheet, INTS, 0, 0), UNLIKE);
        }
    }

    private void expandRefused() {
        for (int s : NO_SHEETS) {
            refuses("12 expand on sheet " + s, BAD, x -> x.expand(s, 1, 1, 1));
        }
        for (int n : new int[] {-1, 41, MIN, MAX}) {
            refuses("12 expand, n " + n, BAD, x -> x.expand(0, 1, 1, n));
        }
        for (int p : new int[] {-10000, 10000, MIN, MAX}) {
            refuses("12 expand, p " + p, BAD, x -> x.expand(0, p, 1, 1));
        }
        for (int q : new int[] {0, 10000, 10001, -1, MIN, MAX}) {
            refuses("12 expand, q " + q, BAD, x -> x.expand(0, 1, q, 1));
        }
        for (int q : new int[] {2, 4, 9998}) {
            refuses("12 expand, q is even: " + q, STATE, x -> x.expand(0, 1, q, 1));
            refuses("12 expand of nothing, q is even: " + q, STATE, x -> x.expand(0, 0, q, 0));
        }
    }

    private void expandOrder() {
        refuses("12 SHEET ahead of even q", BAD, x -> x.expand(4, 1, 2, 1));
        refuses("12 n ahead of even q", BAD, x -> x.expand(0, 1, 2, 41));
        refuses("12 p ahead of even q", BAD, x -> x.expand(0, 10000, 2, 1));
        refuses("12 q none such ahead of even q", BAD, x -> x.expand(0, 1, 10000, 1));
        refuses("12 q 0 ahead of even q", BAD, x -> x.expand(0, 1, 0, 1));
        refuses("12 q -2 ahead of even q", BAD, x -> x.expand(0, 1, -2, 1));
    }

    // ---- promise 13

    private void comesRound(String edge, int p, int q, int period, int ahead) {
        stays("13 PERIOD, " + edge, period, Edges::nothing, x -> x.period(p, q, 0));
        stays("13 AHEAD, " + edge, ahead, Edges::nothing, x -> x.period(p, q, 1));
    }

    /** What goes on from 0 down to -q comes again; one beyond either end does not. */
    private void periodRoundAtOnce() {
        comesRound("0", 0, 1, 1, 0);
        comesRound("-q", -1, 1, 1, 0);
        comesRound("1 above 0", 1, 1, 1, 1);
        comesRound("1 below -q", -2, 1, 1, 1);
        comesRound("0 by 7", 0, 7, 1, 0);
        comesRound("-q of 7", -7, 7, 1, 0);
        comesRound("-1 by 7", -1, 7, 3, 0);
        comesRound("-6 by 7", -6, 7, 3, 0);
        comesRound("1 by 7", 1, 7, 3, 1);
        // -8 goes on as -4.
        comesRound("-8 by 7", -8, 7, 3, 1);
        // 7 goes on as 0, which comes again at once.
        comesRound("7 by 7", 7, 7, 1, 1);
        comesRound("-3 by 9, not in lowest terms", -3, 9, 2, 0);
    }

    private void periodParts() {
        comesRound("p 9999", 9999, 1, 1, 14);
        comesRound("p -9999", -9999, 1, 1, 14);
        comesRound("p -9999, q 9999", -9999, 9999, 1, 0);
        comesRound("p 9999, q 9999", 9999, 9999, 1, 1);
        // 9999 is 9 by 11 by 101, whose periods are 6, 10, 100.
        comesRound("p -9998, q 9999", -9998, 9999, 300, 0);
        // 2 is a primitive root of 9949: the longest there is.
        comesRound("q 9949", -1, 9949, 9948, 0);
    }

    private void periodRefused() {
        for (int what : new int[] {-1, 2, MIN, MAX}) {
            refuses("13 period, what " + what, BAD, x -> x.period(1, 1, what));
        }
        for (int p : new int[] {-10000, 10000, MIN, MAX}) {
            refuses("13 period, p " + p, BAD, x -> x.period(p, 1, 0));
        }
        for (int q : new int[] {0, 10000, 10001, -1, MIN, MAX}) {
            refuses("13 period, q " + q, BAD, x -> x.period(1, q, 0));
        }
        for (int q : new int[] {2, 4, 9998}) {
            refuses("13 PERIOD, q is even: " + q, STATE, x -> x.period(1, q, 0));
            refuses("13 AHEAD, q is even: " + q, STATE, x -> x.period(0, q, 1));
        }
    }

    private void periodOrder() {
        refuses("13 what ahead of even q", BAD, x -> x.period(1, 2, 2));
        refuses("13 p ahead of even q", BAD, x -> x.period(-10000, 2, 0));
        refuses("13 q none such ahead of even q", BAD, x -> x.period(1, 10000, 0));
        refuses("13 q 0 ahead of even q", BAD, x -> x.period(1, 0, 0));
        refuses("13 q -2 ahead of even q", BAD, x -> x.period(1, -2, 0));
    }
}
