/** The boundary cases of promises 1 to 8: a new object, machines, steps. */
public final class MachineEdgesTest extends Edges {
    private static final int KINDS = 6, MOST_CELLS = 6;
    private static final String[] KIND_NAMES = {"CARRYING", "LINEAR", "TURNED", "BORROWING", "HELD", "RING"};

    public static void main(String[] args) {
        MachineEdgesTest t = new MachineEdgesTest();
        t.newObjectHasNothing();
        t.newObjectSharesNothing();
        t.machineKinds();
        t.machineCells();
        t.machineTapsAndStates();
        t.machineComesWithoutCarry();
        t.machineFourthAndFifth();
        t.machineBadAheadOfFull();
        t.dropNone();
        t.dropLatest();
        t.setState();
        t.setCarry();
        t.setTaps();
        t.setKind();
        t.setAnswersWhatWas();
        t.setMakesAnew();
        t.setRefused();
        t.setFourth();
        t.ofMade();
        t.ofLinks();
        t.ofCarry();
        t.ofRefused();
        t.takenUnder();
        t.takenRefused();
        t.stepCounts();
        t.stepIsTrue();
        t.stepBelowNothing();
        t.stepOfOneCell();
        t.stepOfKindsWithoutCarry();
        t.stepHeld();
        t.stepRing();
        t.stepRefused();
        t.thenCounts();
        t.thenIsThought();
        t.thenRefused();
        t.due.end();
    }

    private static int all(int cells) {
        return (1 << cells) - 1;
    }

    // ---- promise 1

    private void newObjectHasNothing() {
        for (int what = 0; what < 5; what++) {
            int w = what;
            stays("1 count(" + what + ") of a new object", 0, Edges::nothing, x -> x.count(w));
        }
        for (int m = 0; m < 4; m++) {
            int machine = m;
            stays("1 no machine " + m, REFUSED, Edges::nothing, x -> x.of(machine, 0));
        }
        for (int s = 0; s < 4; s++) {
            int sheet = s;
            stays("1 sheet " + s + " is missing", NO, Edges::nothing, x -> x.number(sheet));
            stays("1 sheet " + s + " is missing", MISSING, Edges::nothing, x -> x.put(sheet, 0, 1));
        }
        stays("1 nothing to drop", STATE, Edges::nothing, x -> x.drop());
        stays("1 no image", STATE, Edges::nothing, x -> x.back());
        stays("1 an empty tape", -100, Edges::nothing, x -> x.text());
        answers("1 the first machine is 0", 0, Edges::nothing, x -> x.machine(0, 1, 1, 0));
    }

    private void newObjectSharesNothing() {
        CarryShifts other = made(Edges::fill);
        due.holds("1 a new object beside a used one", Standing.of(new CarryShifts()).equals(Standing.of(made(Edges::nothing))));
        is("1 the used one keeps its machines", other.count(0), 4);
        answers("1 no machines beside a used one", 0, Edges::nothing, x -> x.count(0));
    }

    // ---- promise 2

    private void machineKinds() {
        for (int kind = 0; kind < KINDS; kind++) {
            int k = kind;
            answers("2 machine of KIND " + kind, 0, Edges::nothing, x -> x.machine(k, 2, 2, 1));
            answers("2 its KIND", kind, x -> x.machine(k, 2, 2, 1), x -> x.of(0, 0));
        }
        for (int kind : new int[] {-1, KINDS, MIN, MAX}) {
            refuses("2 machine of KIND " + kind, BAD, x -> x.machine(kind, 1, 1, 0));
        }
    }

    private void machineCells() {
        for (int cells = 1; cells <= MOST_CELLS; cells++) {
            int c = cells;
            answers("2 machine of " + cells + " CELLS", 0, Edges::nothing, x -> x.machine(0, c, 1, 0));
            answers("2 its CELLS", cells, x -> x.machine(0, c, 1, 0), x -> x.of(0, 1));
        }
        for (int cells : new int[] {0, 7, -1, 31, 32, 33, 38, MIN, MAX}) {
            refuses("2 machine of " + cells + " CELLS", BAD, x -> x.machine(0, cells, 1, 0));
        }
    }

    private void machineTapsAndStates() {
        for (int cells = 1; cells <= MOST_CELLS; cells++) {
            int c = cells;
            for (int v : new int[] {1, all(cells)}) {
                answers("2 TAPS " + v + " of " + cells, v, x -> x.machine(5, c, v, 0), x -> x.of(0, 2));
            }
            for (int v : new int[] {0, all(cells)}) {
                answers("2 STATE " + v + " of " + cells, v, x -> x.machine(5, c, 1, v), x -> x.of(0, 3));
            }
            for (int v : new int[] {0, all(cells) + 1, -1, MIN, MAX}) {
                refuses("2 TAPS " + v + " of " + cells, BAD, x -> x.machine(0, c, v, 0));
            }
            for (int v : new int[] {-1, all(cells) + 1, MIN, MAX}) {
                refuses("2 STATE " + v + " of " + cells, BAD, x -> x.machine(0, c, 1, v));
            }
        }
    }

    private void machineComesWithoutCarry() {
        CarryShifts x = new CarryShifts();
        x.machine(0, 2, 3, 3);
        x.set(0, 1, 5);
        x.drop();
        x.machine(0, 2, 3, 3);
        stands("2 CARRY is 0 in the place of one that had some", x, 0, 3, 0);
    }

    private void machineFourthAndFifth() {
        CarryShifts x = new CarryShifts();
        for (int m = 0; m < 4; m++) {
            is("2 machine " + m, x.machine(m, 1 + m, 1, 0), m);
            is("2 machines", x.count(0), m + 1);
        }
        is("2 the fifth machine", x.machine(0, 1, 1, 0), FULL);
        stays("2 the fifth machine", FULL, Edges::fill, y -> y.machine(5, 6, 63, 63));
        x.drop();
        is("2 the fourth once more", x.machine(5, 6, 1, 0), 3);
        is("2 it is the new one", x.of(3, 0), 5);
    }

    private void machineBadAheadOfFull() {
        stays("2 kind ahead of FULL", BAD, Edges::fill, x -> x.machine(6, 1, 1, 0));
        stays("2 cells ahead of FULL", BAD, Edges::fill, x -> x.machine(0, 7, 1, 0));
        stays("2 taps ahead of FULL", BAD, Edges::fill, x -> x.machine(0, 1, 2, 0));
        stays("2 state ahead of FULL", BAD, Edges::fill, x -> x.machine(0, 1, 1, 2));
    }

    // ---- promise 3

    private void dropNone() {
        stays("3 drop on a new object", STATE, Edges::nothing, x -> x.drop());
        refusesWithoutMachines("3 drop behind the last one", STATE, x -> x.drop());
    }

    private void dropLatest() {
        CarryShifts x = made(Edges::fill);
        for (int left = 3; left >= 0; left--) {
            is("3 drop leaves " + left, x.drop(), left);
            is("3 machines", x.count(0), left);
            is("3 the latest is none any more", x.of(left, 0), REFUSED);
            is("3 that ahead of it stays", x.of(left - 1, 1), new int[] {REFUSED, 3, 6, 1}[left]);
        }
        is("3 drop, none left", x.drop(), STATE);
        is("3 the image stays", x.back(), 1);
    }

    // ---- promise 4

    private void setState() {
        for (int cells = 1; cells <= MOST_CELLS; cells++) {
            int c = cells;
            Making one = x -> x.machine(0, c, 1, 0);
            for (int v : new int[] {0, all(cells)}) {
                CarryShifts x = made(one);
                is("4 STATE " + v + " of " + cells, x.set(0, 0, v), 0);
                stands("4 STATE " + v + " of " + cells, x, 0, v, 0);
            }
            for (int v : new int[] {-1, all(cells) + 1, MIN, MAX}) {
                stays("4 STATE " + v + " of " + cells, REFUSED, one, x -> x.set(0, 0, v));
            }
        }
    }

    private void setCarry() {
        for (int v : new int[] {-9, -1, 0, 9}) {
            CarryShifts x = made(y -> y.machine(0, 2, 1, 3));
            is("4 CARRY " + v, x.set(0, 1, v), 0);
            stands("4 CARRY " + v, x, 0, 3, v);
        }
        for (int v : new int[] {-10, 10, MIN, MAX}) {
            refuses("4 CARRY " + v, REFUSED, x -> x.set(0, 1, v));
        }
    }

    private void setTaps() {
        for (int cells = 1; cells <= MOST_CELLS; cells++) {
            int c = cells;
            Making one = x -> x.machine(0, c, 1, 1);
            for (int v : new int[] {1, all(cells)}) {
                CarryShifts x = made(one);
                is("4 TAPS " + v + " of " + cells, x.set(0, 2, v), 1);
                is("4 TAPS are " + v, x.of(0, 2), v);
            }
            for (int v : new int[] {0, all(cells) + 1, -1, MIN, MAX}) {
                stays("4 TAPS " + v + " of " + cells, REFUSED, one, x -> x.set(0, 2, v));
            }
        }
    }

    private void setKind() {
        for (int kind = 0; kind < KINDS; kind++) {
            CarryShifts x = made(Edges::furnish);
            is("4 KIND " + kind, x.set(1, 3, kind), 5);
            is("4 KIND is " + kind, x.of(1, 0), kind);
        }
        for (int v : new int[] {-1, KINDS, MIN, MAX}) {
            refuses("4 KIND " + v, REFUSED, x -> x.set(1, 3, v));
        }
    }

    private void setAnswersWhatWas() {
        CarryShifts x = made(Edges::furnish);
        is("4 what STATE was", x.set(1, 0, 0), 42);
        is("4 what STATE was, the same again", x.set(1, 0, 0), 0);
        is("4 what CARRY was", x.set(0, 1, 9), -9);
        is("4 what CARRY was, the same again", x.set(0, 1, 9), 9);
        is("4 what TAPS were", x.set(0, 2, 5), 5);
        is("4 what KIND was", x.set(2, 3, 2), 2);
        CarryShifts ring = made(y -> y.machine(5, 6, 63, 63));
        ring.step(0, 1);
        is("4 what CARRY was, beyond 9", ring.set(0, 1, 0), 31);
    }

    private void setMakesAnew() {
        CarryShifts x = made(y -> y.machine(5, 6, 63, 63));
        x.step(0, 1);
        stands("4 CARRY that a RING leaves", x, 0, 32, 31);
        x.set(0, 2, 63);
        is("4 MADE, TAPS the same again", x.of(0, 5), 138);
        stands("4 TAPS the same again", x, 0, 32, 31);
        x.set(0, 2, 1);
        is("4 MADE, TAPS 1", x.of(0, 5), 1328);
        stands("4 TAPS become others", x, 0, 32, 31);
        x.set(0, 3, 5);
        is("4 MADE, KIND the same again", x.of(0, 5), 1328);
        stands("4 KIND the same again", x, 0, 32, 31);
        x.set(0, 3, 2);
        is("4 MADE, KIND becomes another", x.of(0, 5), 13245);
        stands("4 KIND becomes another", x, 0, 32, 31);
        is("4 TAPS stay as KIND becomes another", x.of(0, 2), 1);
        is("4 CELLS stay", x.of(0, 1), 6);
    }

    private void setRefused() {
        for (int m : new int[] {-1, 3, 4, MIN, MAX}) {
            refuses("4 set of machine " + m, REFUSED, x -> x.set(m, 0, 0));
        }
        for (int what : new int[] {-1, 4, MIN, MAX}) {
            refuses("4 set what " + what, REFUSED, x -> x.set(0, what, 1));
        }
        refusesWithoutMachines("4 set without machines", REFUSED, x -> x.set(0, 0, 0));
    }

    private void setFourth() {
        CarryShifts x = made(Edges::fill);
        int[] was = {1, 0, 3, 3};
        int[] becomes = {2, -9, 2, 5};
        int[] as = {3, 4, 2, 0};
        for (int what = 0; what < 4; what++) {
            is("4 set of the fourth machine, what " + what, x.set(3, what, becomes[what]), was[what]);
            is("4 the fourth machine, what " + what, x.of(3, as[what]), becomes[what]);
        }
        stands("4 others stay", x, 2, 1, 0);
        is("4 others stay", x.of(2, 0), 2);
        is("4 machines", x.count(0), 4);
    }

    // ---- promise 5

    private void ofMade() {
        int[] made = {13, 134, 1345, 136, 137, 138};
        int[] madeOfTaps1 = {132, 1324, 13245, 1326, 1327, 1328};
        for (int kind = 0; kind < KINDS; kind++) {
            int k = kind;
            answers("5 MADE of " + KIND_NAMES[k], made[k], x -> x.machine(k, 6, 63, 0), x -> x.of(0, 5));
            answers("5 MADE of " + KIND_NAMES[k] + ", TAPS 2", made[k], x -> x.machine(k, 6, 2, 0), x -> x.of(0, 5));
            answers("5 MADE of " + KIND_NAMES[k] + ", TAPS 1", madeOfTaps1[k], x -> x.machine(k, 6, 1, 0), x -> x.of(0, 5));
            answers("5 MADE of one cell", madeOfTaps1[k], x -> x.machine(k, 1, 1, 0), x -> x.of(0, 5));
        }
        CarryShifts x = made(y -> y.machine(3, 2, 1, 0));
        x.set(0, 2, 3);
        is("5 MADE, TAPS 1 no more", x.of(0, 5), 136);
    }

    private void ofLinks() {
        for (int cells = 1; cells <= MOST_CELLS; cells++) {
            int c = cells;
            answers("5 LINKS of cell 0", (1 << c) - 1, x -> x.machine(0, c, 1, 0), x -> x.of(0, 6));
            answers("5 LINKS of the last cell", 1, x -> x.machine(0, c, 1 << c - 1, 0), x -> x.of(0, 6));
            answers("5 LINKS of all cells", (2 << c) - 3, x -> x.machine(0, c, all(c), 0), x -> x.of(0, 6));
        }
        for (int kind = 0; kind < KINDS; kind++) {
            int k = kind;
            answers("5 LINKS of " + KIND_NAMES[k], 9, x -> x.machine(k, 3, 5, 0), x -> x.of(0, 6));
        }
    }

    private void ofCarry() {
        for (int v : new int[] {-9, -1, 0, 9}) {
            Making one = x -> {
                x.machine(0, 1, 1, 0);
                x.set(0, 1, v);
            };
            stays("5 CARRY " + v, v, one, x -> x.of(0, 4));
        }
    }

    private void ofRefused() {
        for (int m : new int[] {-1, 3, 4, MIN, MAX}) {
            refuses("5 of machine " + m, REFUSED, x -> x.of(m, 0));
        }
        for (int what : new int[] {-1, 7, MIN, MAX}) {
            refuses("5 of what " + what, REFUSED, x -> x.of(0, what));
        }
        refusesWithoutMachines("5 of without machines", REFUSED, x -> x.of(0, 0));
        int[] fourth = {3, 2, 3, 1, 0, 136, 5};
        for (int what = 0; what < 7; what++) {
            int w = what;
            stays("5 of the fourth machine, what " + what, fourth[what], Edges::fill, x -> x.of(3, w));
        }
    }

    // ---- promise 6

    private void takenUnder() {
        String[] under = {"100000", "110000", "111000", "100100", "100010", "100001"};
        for (int kind = 0; kind < KINDS; kind++) {
            for (int as = 0; as < KINDS; as++) {
                int k = kind, a = as;
                stays("6 " + KIND_NAMES[k] + " taken for " + KIND_NAMES[a], under[k].charAt(a) == '1' ? 6 : UNLIKE,
                        x -> x.machine(k, 3, 6, 1), x -> x.taken(0, a));
            }
        }
    }

    private void takenRefused() {
        for (int m : new int[] {-1, 3, 4, MIN, MAX}) {
            refuses("6 taken machine " + m, BAD, x -> x.taken(m, 0));
        }
        for (int k : new int[] {-1, KINDS, MIN, MAX}) {
            refuses("6 taken for KIND " + k, BAD, x -> x.taken(0, k));
        }
        refusesWithoutMachines("6 taken without machines", BAD, x -> x.taken(0, 0));
    }

    // ---- promise 7

    private void stepCounts() {
        Making ones = x -> x.machine(0, 1, 1, 1);
        answers("7 one step", 1, ones, x -> x.step(0, 1));
        answers("7 thirty steps, the greatest answer", (1 << 30) - 1, ones, x -> x.step(0, 30));
        // A 1 that goes round six cells is told as the sixth bit, .., as the thirtieth.
        answers("7 first bit lowest", 1 << 5 | 1 << 11 | 1 << 17 | 1 << 23 | 1 << 29, x -> x.machine(1, 6, 1, 32),
                x -> x.step(0, 30));
        answers("7 step of the fourth machine", 1, Edges::fill, x -> x.step(3, 1));
    }

    private void stepIsTrue() {
        CarryShifts x = made(Edges::furnish);
        x.set(0, 1, 0);
        // 1/3 and on: 1 1 0 1 0 1 ..
        is("7 first bits", x.step(0, 3), 3);
        stands("7 behind 3 steps", x, 0, 5, 0);
        is("7 next bits", x.step(0, 2), 1);
        stands("7 behind 5 steps", x, 0, 5, 0);
        is("7 and one", x.step(0, 1), 1);
        stands("7 behind 6 steps", x, 0, 2, 1);
        stands("7 others stay", x, 1, 42, 9);
    }

    /** One step of machine 0: its bit, STATE and CARRY then. */
    private void oneStep(String edge, int[] machine, int carry, int told, int state, int carried) {
        CarryShifts x = new CarryShifts();
        x.machine(machine[0], machine[1], machine[2], machine[3]);
        x.set(0, 1, carry);
        is("7 " + edge, x.step(0, 1), told);
        stands("7 " + edge, x, 0, state, carried);
    }

    private void stepBelowNothing() {
        oneStep("CARRYING, SUM 0", new int[] {0, 2, 1, 2}, 0, 0, 1, 0);
        oneStep("CARRYING, SUM -1", new int[] {0, 2, 1, 2}, -1, 0, 3, -1);
        oneStep("CARRYING, SUM -2", new int[] {0, 2, 1, 2}, -2, 0, 1, -1);
        oneStep("CARRYING, SUM -9", new int[] {0, 2, 1, 2}, -9, 0, 3, -5);
        oneStep("CARRYING, SUM 15", new int[] {0, 6, 63, 63}, 9, 1, 63, 7);
        oneStep("CARRYING, SUM 14", new int[] {0, 6, 63, 63}, 8, 1, 31, 7);
        oneStep("BORROWING, SUM -1", new int[] {3, 2, 1, 1}, 0, 1, 2, -1);
        oneStep("BORROWING, SUM -2", new int[] {3, 2, 3, 3}, 0, 1, 1, -1);
        oneStep("BORROWING, SUM -15", new int[] {3, 6, 63, 63}, -9, 1, 63, -8);
        oneStep("BORROWING, SUM 9", new int[] {3, 6, 63, 0}, 9, 0, 32, 4);
        oneStep("BORROWING, SUM 1", new int[] {3, 2, 1, 1}, 2, 1, 2, 0);
    }

    private void stepOfOneCell() {
        oneStep("one cell, CARRYING, 0", new int[] {0, 1, 1, 0}, 0, 0, 0, 0);
        oneStep("one cell, CARRYING, 1", new int[] {0, 1, 1, 1}, 1, 1, 0, 1);
        oneStep("one cell, LINEAR", new int[] {1, 1, 1, 1}, 1, 1, 1, 1);
        oneStep("one cell, TURNED", new int[] {2, 1, 1, 1}, 0, 1, 0, 0);
        oneStep("one cell, RING", new int[] {5, 1, 1, 1}, 1, 1, 0, 1);
        // Cells that are not tapped do not feed; the last is tapped here, cell 0 not.
        oneStep("only the last cell tapped", new int[] {0, 3, 4, 3}, 0, 1, 1, 0);
        oneStep("only the last cell tapped", new int[] {0, 3, 4, 4}, 0, 0, 6, 0);
    }

    private void stepOfKindsWithoutCarry() {
        oneStep("LINEAR, CARRY -9 stays", new int[] {1, 3, 5, 5}, -9, 1, 2, -9);
        oneStep("LINEAR, CARRY 9 stays", new int[] {1, 3, 7, 7}, 9, 1, 7, 9);
        oneStep("TURNED, FED 0", new int[] {2, 3, 5, 0}, -9, 0, 4, -9);
        oneStep("TURNED, FED 1", new int[] {2, 3, 1, 1}, 9, 1, 0, 9);
        oneStep("TURNED, FED 6", new int[] {2, 6, 63, 63}, 0, 1, 63, 0);
    }

    private void stepHeld() {
        oneStep("HELD, SUM 1", new int[] {4, 2, 1, 1}, 0, 1, 2, 0);
        oneStep("HELD, SUM 3", new int[] {4, 2, 1, 1}, 2, 1, 2, 1);
        oneStep("HELD, SUM 4", new int[] {4, 2, 1, 1}, 3, 1, 0, 1);
        oneStep("HELD, SUM 15", new int[] {4, 6, 63, 63}, 9, 1, 63, 1);
        oneStep("HELD, SUM -1", new int[] {4, 2, 1, 0}, -1, 0, 2, -1);
        oneStep("HELD, SUM -9", new int[] {4, 2, 1, 0}, -9, 0, 2, -5);
    }

    private void stepRing() {
        oneStep("RING, 1 and 1 and 1", new int[] {5, 2, 3, 3}, 3, 1, 1, 3);
        oneStep("RING, CARRY -1", new int[] {5, 2, 3, 3}, -1, 1, 1, 3);
        oneStep("RING, CARRY 9 of two cells", new int[] {5, 2, 3, 0}, 9, 0, 1, 0);
        oneStep("RING, CARRY 8 of three cells", new int[] {5, 3, 7, 0}, 8, 0, 0, 0);
        oneStep("RING, CARRY 8 of four cells", new int[] {5, 4, 7, 0}, 8, 0, 8, 0);
        oneStep("RING, CARRY -8 of three cells", new int[] {5, 3, 7, 0}, -8, 0, 0, 0);
        oneStep("RING, CARRY -9 of six cells", new int[] {5, 6, 1, 0}, -9, 0, 55, 0);
        oneStep("RING, the last cell gets 0", new int[] {5, 3, 1, 6}, 0, 0, 3, 0);
        oneStep("RING, the last cell tapped", new int[] {5, 3, 4, 1}, 4, 1, 0, 4);
        oneStep("RING, all there is", new int[] {5, 6, 63, 63}, -1, 1, 31, 63);
        CarryShifts x = made(y -> y.machine(5, 6, 63, 63));
        x.set(0, 1, -1);
        x.step(0, 1);
        is("7 RING, CARRY 63 goes on", x.step(0, 1), 1);
        stands("7 RING, CARRY 63 goes on", x, 0, 15, 63);
    }

    private void stepRefused() {
        for (int m : new int[] {-1, 3, 4, MIN, MAX}) {
            refuses("7 step of machine " + m, BAD, x -> x.step(m, 1));
        }
        for (int n : new int[] {0, 31, -1, MIN, MAX}) {
            refuses("7 steps " + n, BAD, x -> x.step(0, n));
        }
        refusesWithoutMachines("7 step without machines", BAD, x -> x.step(0, 1));
    }

    // ---- promise 8

    private void thenCounts() {
        int[] now = {0, 42, 9};
        for (int what = 0; what < 3; what++) {
            int w = what;
            stays("8 behind no step, what " + what, now[what], Edges::furnish, x -> x.then(1, 0, w));
        }
        // A 1 goes round six cells: behind 40 steps it stands where it stands behind 4.
        Making one = x -> {
            x.machine(1, 6, 1, 32);
            x.set(0, 1, -9);
        };
        stays("8 behind 39 steps, STATE", 4, one, x -> x.then(0, 39, 1));
        stays("8 behind 40 steps, STATE", 2, one, x -> x.then(0, 40, 1));
        stays("8 behind 40 steps, the bit", 0, one, x -> x.then(0, 40, 0));
        stays("8 behind 35 steps, the bit", 1, one, x -> x.then(0, 35, 0));
        stays("8 behind 40 steps, CARRY", -9, one, x -> x.then(0, 40, 2));
        stays("8 of the fourth machine", 1, Edges::fill, x -> x.then(3, 0, 1));
    }

    private void thenIsThought() {
        stays("8 in thought, the bit", 1, Edges::furnish, x -> x.then(0, 1, 0));
        // FED is 1, SUM -8.
        stays("8 in thought, STATE", 1, Edges::furnish, x -> x.then(0, 1, 1));
        stays("8 in thought, CARRY below 0", -4, Edges::furnish, x -> x.then(0, 1, 2));
    }

    private void thenRefused() {
        for (int m : new int[] {-1, 3, 4, MIN, MAX}) {
            refuses("8 then of machine " + m, REFUSED, x -> x.then(m, 0, 0));
        }
        for (int n : new int[] {-1, 41, MIN, MAX}) {
            refuses("8 then behind " + n, REFUSED, x -> x.then(0, n, 0));
        }
        for (int what : new int[] {-1, 3, MIN, MAX}) {
            refuses("8 then what " + what, REFUSED, x -> x.then(0, 0, what));
        }
        refusesWithoutMachines("8 then without machines", REFUSED, x -> x.then(0, 0, 0));
    }
}
