/** The boundary cases of promises 28 and 29: THE TAPE, texts and their faults. */
public final class TextEdgesTest extends Edges {
    private static final String DROPS_59 = "drop;drop;drop;drop;drop;drop;drop;drop;drop;drop;drop;drop";

    public static void main(String[] args) {
        TextEdgesTest t = new TextEdgesTest();
        t.feedCounts();
        t.feedBytes();
        t.feedFull();
        t.feedRefused();
        t.feedOrder();
        t.textEmpty();
        t.textEmptiesTheTape();
        t.textEndsTooEarly();
        t.textWrongToken();
        t.textNoToken();
        t.textWords();
        t.textNumbers();
        t.textBlanks();
        t.textSigns();
        t.textFullTape();
        t.textFaultDoesNothing();
        t.textBehindAFault();
        t.textLateClauses();
        t.textAnswersDoNotMatter();
        t.textLimits();
        t.textRefusedOnesAreNotDone();
        t.textInOrder();
        t.due.end();
    }

    // ---- promise 28

    private void feedCounts() {
        for (int n = 1; n <= 5; n++) {
            int many = n;
            CarryShifts x = new CarryShifts();
            is("28 feed " + n, x.feed(n, 'd', 'r', 'o', 'p', ';'), n);
            is("28 the tape has " + n, x.count(1), n);
            // Cut short it is a word that is none, whole it is done (with ; it ends too early).
            answers("28 the bytes of " + n, new int[] {-100, -100, -100, 0, -105}[n - 1],
                    y -> y.feed(many, 'd', 'r', 'o', 'p', ';'), y -> y.text());
        }
        CarryShifts x = new CarryShifts();
        is("28 feed", x.feed(3, 'd', 'r', 'o', ';', ';'), 3);
        is("28 behind it", x.feed(1, 'p', ';', ';', ';', ';'), 4);
        is("28 those not asked do not come", x.text(), 0);
    }

    private void feedBytes() {
        answers("28 all 0", 5, Edges::nothing, x -> x.feed(5, 0, 0, 0, 0, 0));
        answers("28 all 255", 5, Edges::nothing, x -> x.feed(5, 255, 255, 255, 255, 255));
        answers("28 255 not asked", 1, Edges::nothing, x -> x.feed(1, 0, 255, 255, 255, 255));
    }

    /** Sixty bytes have room; the same bytes, some of them beyond it, have none. */
    private void feedFull() {
        for (int n = 1; n <= 5; n++) {
            int many = n;
            Making room = x -> feed(x, ";".repeat(60 - many));
            Making less = x -> feed(x, ";".repeat(61 - many));
            answers("28 the last " + n, 60, room, x -> x.feed(many, 1, 1, 1, 1, 1));
            stays("28 one more than have room: " + n, FULL, less, x -> x.feed(many, 1, 1, 1, 1, 1));
            answers("28 none comes of " + n, 61 - n, less, x -> {
                x.feed(many, 1, 1, 1, 1, 1);
                return x.count(1);
            });
            stays("28 the full tape, " + n, FULL, x -> feed(x, ";".repeat(60)), x -> x.feed(many, 0, 0, 0, 0, 0));
        }
        CarryShifts x = made(y -> feed(y, ";".repeat(60)));
        is("28 a full tape", x.count(1), 60);
        x.text();
        is("28 room again behind text", x.feed(5, 1, 1, 1, 1, 1), 5);
    }

    private void feedRefused() {
        for (int n : new int[] {0, 6, -1, MIN, MAX}) {
            refuses("28 feed " + n, BAD, x -> x.feed(n, 1, 1, 1, 1, 1));
        }
        for (int i = 0; i < 5; i++) {
            for (int v : new int[] {-1, 256, MIN, MAX}) {
                int[] b = {1, 1, 1, 1, 1};
                b[i] = v;
                for (int n = 1; n <= 5; n++) {
                    int many = n;
                    refuses("28 byte " + i + " is " + v + " of " + n, BAD, x -> x.feed(many, b[0], b[1], b[2], b[3], b[4]));
                }
            }
        }
    }

    private void feedOrder() {
        Making full = x -> feed(x, ";".repeat(60));
        stays("28 n ahead of FULL", BAD, full, x -> x.feed(6, 1, 1, 1, 1, 1));
        stays("28 n ahead of FULL", BAD, full, x -> x.feed(0, 1, 1, 1, 1, 1));
        stays("28 a byte ahead of FULL", BAD, full, x -> x.feed(1, 256, 1, 1, 1, 1));
        stays("28 a byte not asked ahead of FULL", BAD, full, x -> x.feed(1, 1, 1, 1, 1, -1));
    }

    // ---- promise 29

    /** What the text answers on an object with three machines. */
    private void says(String text, int want) {
        CarryShifts x = new CarryShifts();
        for (int i = 0; i < 3; i++) {
            x.machine(0, 3, 5, 3);
        }
        feed(x, text);
        String edge = "29 text '" + text.replace("\n", "\\n") + "'";
        is(edge + " is whole on the tape", x.count(1), text.length());
        is(edge, x.text(), want);
        is(edge + ": the tape is empty then", x.count(1), 0);
    }

    private void textEmpty() {
        stays("29 the empty tape", -100, Edges::nothing, x -> x.text());
        says("", -100);
        says(" ", -101);
        says("\n", -101);
        says(" \n ", -103);
        says(" ".repeat(60), -160);
    }

    private void textEmptiesTheTape() {
        CarryShifts x = made(Edges::furnish);
        is("29 done", x.text(), 3);
        is("29 empty behind what is done", x.count(1), 0);
        is("29 nothing is left of it", x.text(), -100);
        feed(x, "drop ;;");
        is("29 a fault", x.text(), -106);
        is("29 empty behind a fault", x.count(1), 0);
        feed(x, "drop");
        is("29 nothing is left of the fault", x.text(), 1);
    }

    private void textEndsTooEarly() {
        says("machine", -107);
        says("machine ", -108);
        says("machine 0", -109);
        says("machine 0 1 1", -113);
        says("machine 0 1 1 ", -114);
        says("state", -105);
        says("state 0", -107);
        says("carry 0", -107);
        says("taps 0", -106);
        says("step 0 ", -107);
        says("step 0\n", -107);
        says("drop;", -105);
        says("drop; \n", -107);
        says("drop;step 0", -111);
    }

    private void textWrongToken() {
        says(";", -100);
        says(" ;", -101);
        says("7", -100);
        says(" -7", -101);
        says("drop 1", -105);
        says("drop1", -104);
        says("drop-1", -104);
        says("drop drop", -105);
        says("drop step 0 1", -105);
        says("drop;;drop", -105);
        says("drop; ;", -106);
        says("drop;7", -105);
        says("machine 0 1 1;", -113);
        says("machine 0 1 1 0 0", -116);
        says("machine 0 1 1 0 drop", -116);
        says("machine drop", -108);
        says("state 0;", -107);
        says("state 0 1 2", -110);
        says("carry 0 1 2", -110);
        says("taps 0 1 2", -109);
        says("step 0 1 2", -109);
        says("step step 0 1", -105);
        says("step 0 1 step", -109);
        says("step 0 1-1", -108);
    }

    private void textNoToken() {
        int[] none = {0, 9, 11, 13, 31, 33, 44, 46, 47, 58, 60, 64, 65, 90, 91, 96, 123, 127, 128, 160, 255};
        for (int b : none) {
            char c = (char) b;
            says("" + c, -100);
            says(" " + c + "drop", -101);
            says("drop" + c, -104);
            says("drop;" + c, -105);
            says("step 0 " + c + "1", -107);
            says("step 0 1" + c, -108);
        }
        says("-", -100);
        says("step 0 -", -107);
        says("step 0 - 1", -107);
        says("step 0 --1", -107);
        says("step 0 -;", -107);
        says("step 0 -x", -107);
        says("step 0 1-", -108);
        says("drop -", -105);
        says("step - 1", -105);
    }

    private void textWords() {
        String[] none = {"a", "z", "dro", "drops", "xdrop", "dropdrop", "kind", "cells", "film", "mach", "machines", "stat", "states",
            "carr", "carrys", "tap", "tapss", "ste", "steps", "dropz", "dropa"};
        for (String word : none) {
            says(word, -100);
            says(word + " 0 1", -100);
            says("drop;" + word, -105);
            says("step " + word, -105);
        }
        for (String word : new String[] {"machine", "state", "carry", "taps", "step", "drop"}) {
            for (int i = 0; i < word.length(); i++) {
                says(word.substring(0, i) + 'x' + word.substring(i + 1) + " 0 1 1 1", -100);
            }
        }
        says("step 0 x", -107);
        says("step 0 1 x", -109);
        says("machine 0 1 1 x", -114);
        says("DROP", -100);
        says("droP", -100);
        says("a".repeat(60), -100);
        says("drop", 1);
        says("state 0 0", 1);
        says("carry 0 0", 1);
        says("taps 0 1", 1);
        says("step 0 1", 1);
        says("machine 0 1 1 0", 1);
    }

    private void textNumbers() {
        says("step 0 9", 1);
        says("step 0 30", 1);
        says("step 0 99", 0);
        says("step 0 100", -107);
        says("step 0 -9", 0);
        says("step 0 -99", 0);
        says("step 0 -100", -107);
        says("step 0 00", 0);
        says("step 0 01", 1);
        says("step 0 001", -107);
        says("step 0 -001", -107);
        says("step 000 1", -105);
        says("step 0 12345678901234567890", -107);
        says("step 00 1", 1);
        says("step -0 1", 1);
        says("step 0 -0", 0);
        says("carry 0 -9", 1);
        says("carry 0 -09", 1);
        says("carry 0-9", 1);
        says("machine 0 6 63 10", 1);
    }

    private void textBlanks() {
        says(" drop", 1);
        says("drop ", 1);
        says("\ndrop\n", 1);
        says("drop ; drop", 2);
        says("drop\n;\ndrop", 2);
        says("step  0\n\n1", 1);
        says("step0 1", 1);
        says("step0-1", 0);
        says("step 0 1;drop", 2);
        // A blank ends a token.
        says("dr op", -100);
        says("step 0 1 2", -109);
        says("step 1 0 0", -109);
    }

    private void textSigns() {
        says("drop;drop", 2);
        says("drop:drop", -104);
        says("drop<drop", -104);
        says("drop,drop", -104);
    }

    private void textFullTape() {
        says(DROPS_59, 3);
        says(DROPS_59 + " ", 3);
        says(" " + DROPS_59, 3);
        says(DROPS_59 + ";", -160);
        says(DROPS_59 + "x", -155);
        says(DROPS_59 + "1", -159);
        says(DROPS_59 + (char) 0, -159);
        says(" ".repeat(59) + "x", -159);
        says(" ".repeat(56) + "drop", 1);
        says("drop" + " ".repeat(56), 1);
    }

    /** A fault behind clauses that could be done: none is done, but the tape is empty. */
    private void textFaultDoesNothing() {
        String[] faulty = {"drop;", "drop;x", "step 0 1;drop 1", "machine 0 1 1 0;-", "state 0 1;state 0 100", "taps 0 1;;",
            "carry 0 1;carry 0", "drop;drop;drop drop"};
        for (String text : faulty) {
            Making emptied = x -> {
                furnish(x);
                x.text();
                x.back();
            };
            CarryShifts x = made(emptied);
            feed(x, text);
            due.holds("29 '" + text + "' has a fault", x.text() <= -100);
            due.holds("29 '" + text + "' does nothing", Standing.of(x).equals(Standing.of(made(emptied))));
        }
    }

    /** A text is read by itself, whatever stood where the one ahead of it went wrong. */
    private void textBehindAFault() {
        String[] faulty = {"drop drop", "step 0 1 1", "drop;;", "step 0", "drop 7", "step 0 -"};
        for (String text : faulty) {
            CarryShifts x = made(Edges::furnish);
            x.text();
            feed(x, text);
            due.holds("29 '" + text + "' has a fault", x.text() <= -100);
            feed(x, "x");
            is("29 a wrong word behind '" + text + "'", x.text(), -100);
            feed(x, "step 0 x");
            is("29 a wrong number behind '" + text + "'", x.text(), -107);
            is("29 the empty tape behind '" + text + "'", x.text(), -100);
            feed(x, "state 0 1;drop");
            is("29 a right text behind '" + text + "'", x.text(), 2);
        }
    }

    private void textLateClauses() {
        CarryShifts x = made(Edges::furnish);
        x.text();
        feed(x, "drop;drop;drop;drop;drop;drop;drop;drop;machine 1 6 63 42");
        is("29 a machine as the ninth clause", x.text(), 4);
        int[] due1 = {1, 6, 63, 42};
        for (int what = 0; what < 4; what++) {
            is("29 a machine as the ninth clause, what " + what, x.of(0, what), due1[what]);
        }
        feed(x, "state0 1;state0 2;state0 3;carry0 1;carry0 2;carry0-9");
        is("29 six clauses of two numbers", x.text(), 6);
        stands("29 six clauses of two numbers", x, 0, 3, -9);
        feed(x, "machine0 1 1 0;machine0 2 3 1;machine5 6 33 34;taps3 63");
        is("29 three machines and TAPS of the fourth", x.text(), 4);
        is("29 TAPS of the fourth", x.of(3, 2), 63);
        is("29 STATE of the fourth", x.of(3, 3), 34);
        feed(x, "drop;drop;drop;drop;drop;drop;drop;drop;drop;drop;carry 0 -9");
        is("29 sixty bytes, the last clause refused", x.text(), 4);
    }

    /** Done is what is not refused, whatever it answers: 0, or a CARRY that looks like a refusal. */
    private void textAnswersDoNotMatter() {
        for (int carry = -9; carry <= 9; carry++) {
            int was = carry;
            answers("29 carry that was " + was, 1, x -> {
                x.machine(0, 3, 5, 3);
                x.set(0, 1, was);
                feed(x, "carry 0 1");
            }, x -> x.text());
        }
        answers("29 steps that tell 0s", 1, x -> {
            x.machine(0, 1, 1, 0);
            feed(x, "step 0 30");
        }, x -> x.text());
        answers("29 drop of the last one", 1, x -> {
            x.machine(0, 1, 1, 0);
            feed(x, "drop");
        }, x -> x.text());
        answers("29 STATE that was 0", 1, x -> {
            x.machine(0, 1, 1, 0);
            feed(x, "state 0 1");
        }, x -> x.text());
        answers("29 machine 0", 1, x -> feed(x, "machine 0 1 1 0"), x -> x.text());
    }

    private void textLimits() {
        says("machine 5 6 63 63", 1);
        says("machine 6 1 1 0", 0);
        says("machine -1 1 1 0", 0);
        says("machine 0 7 1 0", 0);
        says("machine 0 0 1 0", 0);
        says("machine 0 6 64 0", 0);
        says("machine 0 6 0 0", 0);
        says("machine 0 6 1 64", 0);
        says("machine 0 6 1 -1", 0);
        says("state 2 7", 1);
        says("state 2 8", 0);
        says("state 2 -1", 0);
        says("state 3 0", 0);
        says("state -1 0", 0);
        says("carry 2 9", 1);
        says("carry 2 10", 0);
        says("carry 2 -9", 1);
        says("carry 2 -10", 0);
        says("carry 3 0", 0);
        says("taps 2 7", 1);
        says("taps 2 8", 0);
        says("taps 2 1", 1);
        says("taps 2 0", 0);
        says("taps 3 1", 0);
        says("step 2 1", 1);
        says("step 2 0", 0);
        says("step 2 30", 1);
        says("step 2 31", 0);
        says("step 3 1", 0);
    }

    private void textRefusedOnesAreNotDone() {
        says("drop;drop;drop;drop", 3);
        says("machine 0 1 1 0;machine 0 1 1 0", 1);
        says("step 0 31;drop;carry 0 10;drop", 2);
        Making emptied = x -> {
            furnish(x);
            x.text();
        };
        CarryShifts x = made(emptied);
        feed(x, "carry 0 10;state 0 8;taps 0 8;step 0 0;machine 0 1 2 0");
        is("29 none of five", x.text(), 0);
        due.holds("29 none of five does anything", Standing.of(x).equals(Standing.of(made(emptied))));
        CarryShifts y = made(emptied);
        feed(y, "state 0 2;carry 0 10;state 0 8;taps 0 8;step 0 0");
        is("29 one of five", y.text(), 1);
        is("29 STATE", y.of(0, 3), 2);
        is("29 TAPS stay", y.of(0, 2), 5);
        CarryShifts none = new CarryShifts();
        feed(none, "drop;step 0 1;state 0 0;carry 0 0;taps 0 1");
        is("29 none of five without machines", none.text(), 0);
        is("29 no machines", none.count(0), 0);
    }

    private void textInOrder() {
        CarryShifts x = new CarryShifts();
        feed(x, "step 0 1;machine 0 3 5 3;step 0 3;carry 0 -9;taps 0 1");
        is("29 as if called so, one behind the other", x.text(), 4);
        stands("29 as if called so", x, 0, 5, -9);
        is("29 MADE anew", x.of(0, 5), 132);
        feed(x, "drop;machine 2 2 3 1;drop;machine 5 1 1 0;state 0 1");
        is("29 machines come and go", x.text(), 5);
        is("29 KIND", x.of(0, 0), 5);
        stands("29 machines come and go", x, 0, 1, 0);
    }
}
