/** The boundary cases of the board, of times and of parts: promises 14 to 24, and the terms they rest on. */
public final class EdgesOfBoardTest extends Bench {
    /** How many of a sign are bundled. */
    private static final int[] BUNDLE = {5, 2, 5, 2, 5, 2};

    public static void main(String[] args) {
        columnsAndSides();
        ninetyNineOfEach();
        pouredInAndOut();
        pouring();
        pouringTooMuch();
        bundlingEachSign();
        bundling();
        unbundlingEachSign();
        unbundling();
        firstStepThatCanBe();
        threeHundredSteps();
        aheadOfTooMuch();
        emptySettling();
        stepsOfTheLatest();
        worthOfTheBoard();
        lifting();
        sweeping();
        factorsOfTimes();
        linesOfTimes();
        numbersOfParts();
        linesOfParts();
        coversPromises(14, 24);
        report("EdgesOfBoardTest");
    }

    private static void board(LetterSums x, int side, int... want) {
        for (int sign = 0; sign < 7; sign++) {
            due((side == 0 ? "given of " : "owed of ") + SIGNS.charAt(sign), x.board(sign, side), want[sign]);
        }
    }

    private static void columnsAndSides() {
        about(14, "What is GIVEN (side 0), OWED (1) of a SIGN. UNKNOWN: sign 0 to 6; OUTSIDE.");
        LetterSums x = new LetterSums();
        row(x, 0, "IMV");
        x.pour(0, true);
        board(x, 0, 0, 1, 0, 0, 0, 0, 1);
        board(x, 1, 1, 0, 0, 0, 0, 0, 0);
        refused("sign", x, (y, sign) -> y.board(sign, 0), UNKNOWN, LEAST, -1, 7, 13, GREATEST);
        refused("side", x, (y, side) -> y.board(0, side), OUTSIDE, LEAST, -1, 2, GREATEST);
        refused("side of the last sign", x, (y, side) -> y.board(6, side), OUTSIDE, -1, 2);
        refused("UNKNOWN ahead of OUTSIDE", x, (y, sign) -> y.board(sign, 2), UNKNOWN, -1, 7);
    }

    private static void ninetyNineOfEach() {
        about(0, "THE BOARD has, of SIGNS 0 to 6, so many GIVEN and so many OWED (0 at first, 99 at most each).");
        LetterSums fresh = new LetterSums();
        board(fresh, 0, 0, 0, 0, 0, 0, 0, 0);
        board(fresh, 1, 0, 0, 0, 0, 0, 0, 0);
        for (int sign = 0; sign < 7; sign++) {
            LetterSums x = new LetterSums();
            pourSome(x, sign, 98, true);
            row(x, 1, SIGNS.substring(sign, sign + 1));
            row(x, 2, SIGNS.substring(sign, sign + 1).repeat(2));
            refused("98 given and two", x, x.digest(), x.pour(2, true), FULL);
            due("the 99th given", x.pour(1, true), 99);
            refused("the 100th given", x, x.digest(), x.pour(1, true), FULL);
            pourSome(x, sign, 98, false);
            refused("98 owed and two", x, x.digest(), x.pour(2, false), FULL);
            due("the 99th owed", x.pour(1, false), 198);
            refused("the 100th owed", x, x.digest(), x.pour(1, false), FULL);
            due("given", x.board(sign, 0), 99);
            due("owed", x.board(sign, 1), 99);
        }
    }

    private static void pouredInAndOut() {
        about(0, "POURED in, a ROW's GIVEN ones are GIVEN, its TAKEN ones OWED more; POURED out, the other way round.");
        LetterSums x = new LetterSums();
        row(x, 0, "XXIXIVV");
        due("in", x.pour(0, true), 7);
        board(x, 0, 0, 2, 3, 0, 0, 0, 0);
        board(x, 1, 2, 0, 0, 0, 0, 0, 0);
        due("out", x.pour(0, false), 14);
        board(x, 0, 2, 2, 3, 0, 0, 0, 0);
        board(x, 1, 2, 2, 3, 0, 0, 0, 0);
        row(x, 1, "I".repeat(23) + "M");
        x.sweep();
        due("23 taken ones", x.pour(1, true), 24);
        due("are owed", x.board(0, 1), 23);
        due("one given", x.board(6, 0), 1);
    }

    private static void pouring() {
        about(15, "A ROW is POURED in, or out (is false): GIVEN and OWED SIGNS together. UNKNOWN: r; "
            + "OUTSIDE: a SIGN of it is above 6; FULL: something would be above 99.");
        LetterSums x = new LetterSums();
        due("the first row", x.pour(0, true), 1);
        due("the last row", x.pour(11, false), 2);
        refused("r", x, (y, r) -> y.pour(r, true), UNKNOWN, LEAST, -1, 12, GREATEST);
        refused("r, out", x, (y, r) -> y.pour(r, false), UNKNOWN, -1, 12);
        row(x, 0, "M");
        due("sign 6", x.pour(0, true), 3);
        for (int sign = 7; sign < 14; sign++) {
            row(x, 1, SIGNS.substring(sign, sign + 1));
            refused("sign " + sign, x, x.digest(), x.pour(1, true), OUTSIDE);
        }
        row(x, 1, "iMMMMMMM");
        refused("the first is above 6", x, x.digest(), x.pour(1, true), OUTSIDE);
        row(x, 1, "M".repeat(23) + "i");
        refused("the 24th is above 6", x, x.digest(), x.pour(1, false), OUTSIDE);
    }

    private static void pouringTooMuch() {
        about(15, "FULL: something would be above 99");
        LetterSums x = new LetterSums();
        pourSome(x, 0, 99, true);
        row(x, 1, "MDCLXVI");
        refused("the last sign is too much: none is poured", x, x.digest(), x.pour(1, true), FULL);
        row(x, 1, "IMV");
        due("I is taken: owed, and there is room", x.pour(1, true), 102);
        refused("out it is given", x, x.digest(), x.pour(1, false), FULL);
        row(x, 1, "iI");
        refused("OUTSIDE ahead of FULL", x, x.digest(), x.pour(1, true), OUTSIDE);
        pourSome(x, 0, 98, false);
        due("99 are owed", x.board(0, 1), 99);
        row(x, 1, "IMV");
        refused("a taken one is too much", x, x.digest(), x.pour(1, true), FULL);
    }

    private static void bundlingEachSign() {
        about(0, "BUNDLING of a SIGN below 6: five of I, X, C or two of V, L, D go, one of the next SIGN comes");
        for (int sign = 0; sign < 6; sign++) {
            LetterSums x = new LetterSums();
            int need = BUNDLE[sign];
            for (int had = 0; had < need; had++) {
                refused(had + " " + SIGNS.charAt(sign), x, x.digest(), x.bundle(sign), STATE);
                pourSome(x, sign, 1, true);
            }
            pourSome(x, sign, 1, false);
            due("just enough", x.bundle(sign), 1);
            due("they are gone", x.board(sign, 0), 0);
            due("what is owed stays", x.board(sign, 1), 1);
            due("one has come", x.board(sign + 1, 0), 1);
            due("no more is there", x.sweep(), 2);
            pourSome(x, sign, 99, true);
            due("of 99", x.bundle(sign), 1);
            due("are left", x.board(sign, 0), 99 - need);
        }
    }

    private static void bundling() {
        about(16, "BUNDLING: how many are GIVEN of the next SIGN. UNKNOWN: sign 0 to 5; STATE: there are too few; FULL.");
        for (int sign = 0; sign < 6; sign++) {
            LetterSums x = new LetterSums();
            pourSome(x, sign + 1, 98, true);
            pourSome(x, sign, 2 * BUNDLE[sign] - 1, true);
            due("to 99", x.bundle(sign), 99);
            refused("STATE ahead of FULL", x, x.digest(), x.bundle(sign), STATE);
            pourSome(x, sign, 1, true);
            refused("to 100", x, x.digest(), x.bundle(sign), FULL);
            due("all is there", x.sweep(), 99 + BUNDLE[sign]);
        }
        LetterSums x = new LetterSums();
        for (int sign = 0; sign < 7; sign++) {
            pourSome(x, sign, 5, true);
        }
        refused("sign", x, (y, sign) -> y.bundle(sign), UNKNOWN, LEAST, -1, 6, 7, 13, GREATEST);
        x.sweep();
        pourSome(x, 0, 5, false);
        refused("owed ones are not bundled", x, x.digest(), x.bundle(0), STATE);
        pourSome(x, 1, 99, false);
        pourSome(x, 0, 5, true);
        due("what is owed of the next does not matter", x.bundle(0), 1);
    }

    private static void unbundlingEachSign() {
        about(0, "UNBUNDLING of a SIGN above 0: the other way round.");
        for (int sign = 1; sign < 7; sign++) {
            LetterSums x = new LetterSums();
            refused("none", x, x.digest(), x.unbundle(sign), STATE);
            pourSome(x, sign, 1, false);
            refused("one is owed", x, x.digest(), x.unbundle(sign), STATE);
            pourSome(x, sign, 1, true);
            due("one", x.unbundle(sign), BUNDLE[sign - 1]);
            due("it is gone", x.board(sign, 0), 0);
            due("what is owed stays", x.board(sign, 1), 1);
            due("they have come", x.board(sign - 1, 0), BUNDLE[sign - 1]);
            due("no more is there", x.sweep(), 1 + BUNDLE[sign - 1]);
        }
    }

    private static void unbundling() {
        about(17, "UNBUNDLING: how many are GIVEN of the SIGN below. UNKNOWN: sign 1 to 6; STATE: there is none; FULL.");
        for (int sign = 1; sign < 7; sign++) {
            LetterSums x = new LetterSums();
            pourSome(x, sign - 1, 99 - BUNDLE[sign - 1], true);
            pourSome(x, sign, 1, true);
            due("to 99", x.unbundle(sign), 99);
            refused("STATE ahead of FULL", x, x.digest(), x.unbundle(sign), STATE);
            x.sweep();
            pourSome(x, sign - 1, 100 - BUNDLE[sign - 1], true);
            pourSome(x, sign, 1, true);
            refused("to 100", x, x.digest(), x.unbundle(sign), FULL);
            due("all is there", x.sweep(), 101 - BUNDLE[sign - 1]);
        }
        LetterSums x = new LetterSums();
        for (int sign = 0; sign < 7; sign++) {
            pourSome(x, sign, 1, true);
        }
        refused("sign", x, (y, sign) -> y.unbundle(sign), UNKNOWN, LEAST, -1, 0, 7, 13, GREATEST);
        pourSome(x, 0, 99, false);
        due("what is owed of the one below does not matter", x.unbundle(1), 6);
    }

    /** Settles what a text pours in and another one pours out; the steps are due. */
    private static LetterSums settled(String in, String out, int... steps) {
        LetterSums x = new LetterSums();
        row(x, 0, in.isEmpty() ? "I" : in);
        row(x, 1, out.isEmpty() ? "I" : out);
        if (!in.isEmpty()) {
            x.pour(0, true);
        }
        if (!out.isEmpty()) {
            x.pour(1, false);
        }
        due("steps of '" + in + "' less '" + out + "'", x.settle(), steps.length);
        for (int i = 0; i < steps.length; i++) {
            due("step " + i + " of '" + in + "' less '" + out + "'", x.step(i), steps[i]);
        }
        due("behind the last step", x.step(steps.length), NONE);
        return x;
    }

    private static void firstStepThatCanBe() {
        about(0, "the least SIGN that is both GIVEN and OWED: one of each goes (sort 0)");
        settled("MI", "MI", 0, 6);
        settled("M", "M", 6);
        settled("VV", "V", 1);
        settled("XV", "VI", 1, 12, 11, 0);
        about(0, "if some SIGN is OWED: with a the least that is, the least GIVEN SIGN above a is UNBUNDLED (sort 1)");
        settled("CX", "I", 12, 11, 0);
        settled("V", "I", 11, 0);
        settled("M", "D", 16, 5);
        settled("M", "I", 16, 15, 14, 13, 12, 11, 0);
        settled("C", "XI", 14, 13, 2, 12, 11, 0);
        settled("V", "X");
        settled("XI", "V", 12, 1);
        settled("XIIIII", "V", 12, 1, 20, 21);
        about(0, "the least GIVEN SIGN that can be is BUNDLED (sort 2)");
        settled("VVIIIII", "", 20, 21);
        settled("IIII", "");
        settled("IIIII", "", 20);
        settled("DLV", "");
        settled("DDLLVV", "", 21, 23, 25);
        settled("DD", "", 25);
        settled("MMMMMMMMMM", "");
        settled("VV", "X", 21, 2);
        settled("VVVV", "C", 21, 21);
        settled("DDVVV", "C", 15, 4, 21);
    }

    private static void threeHundredSteps() {
        about(0, "It ends when none can be, or behind 300 STEPS, or ahead of a STEP by which something would be more than 99.");
        for (int more = 2; more <= 5; more++) {
            LetterSums x = new LetterSums();
            for (int sign = 0; sign < 4; sign++) {
                int number = sign < 3 ? 99 : more;
                pourSome(x, sign, number, true);
                pourSome(x, sign, number, false);
            }
            int all = 3 * 99 + more;
            due(all + " steps can be", x.settle(), Math.min(300, all));
            due("count(6)", x.count(6), Math.min(300, all));
            due("the last but two", x.step(296), 2);
            due("the 300th", x.step(299), all >= 300 ? 3 : NONE);
            due("a 301st", x.step(300), NONE);
            due("what is left", x.sweep(), 2 * Math.max(0, all - 300));
        }
        LetterSums x = new LetterSums();
        for (int sign = 0; sign < 3; sign++) {
            pourSome(x, sign, 99, true);
            pourSome(x, sign, 99, false);
        }
        row(x, 0, "DDDDDDLLL");
        row(x, 1, "LLL");
        x.pour(0, true);
        x.pour(1, false);
        due("300, and bundling could go on", x.settle(), 300);
        board(x, 0, 0, 0, 0, 0, 0, 6, 0);
        due("the next one goes on", x.settle(), 3);
        board(x, 0, 0, 0, 0, 0, 0, 0, 3);
    }

    private static void aheadOfTooMuch() {
        about(0, "or ahead of a STEP by which something would be more than 99");
        for (int sign = 0; sign < 6; sign++) {
            LetterSums x = new LetterSums();
            pourSome(x, sign + 1, 99, true);
            pourSome(x, sign, BUNDLE[sign], true);
            due("to 100", x.settle(), 0);
            due("all is there", x.board(sign, 0) * 100 + x.board(sign + 1, 0), BUNDLE[sign] * 100 + 99);
            x.sweep();
            pourSome(x, sign + 1, 98, true);
            pourSome(x, sign, 2 * BUNDLE[sign], true);
            due("to 99, then to 100", x.settle(), 1);
            due("the step", x.step(0), 20 + sign);
            due("what is left", x.board(sign, 0) * 100 + x.board(sign + 1, 0), BUNDLE[sign] * 100 + 99);
        }
        LetterSums x = new LetterSums();
        pourSome(x, 1, 98, true);
        pourSome(x, 0, 9, true);
        due("to 99, and none more comes", x.settle(), 1 + 49 + 9 + 4);
        board(x, 0, 4, 1, 4, 1, 4, 0, 0);
        x.sweep();
        pourSome(x, 6, 99, true);
        pourSome(x, 5, 2, true);
        pourSome(x, 0, 5, true);
        due("what can be ahead of it is done", x.settle(), 1);
        board(x, 0, 0, 1, 0, 0, 0, 2, 99);
    }

    private static void emptySettling() {
        about(18, "SETTLING: how many STEPS.");
        LetterSums x = new LetterSums();
        long asNew = x.digest();
        due("an empty board", x.settle(), 0);
        due("nothing is changed", x.digest() == asNew ? 1 : 0, 1);
        pourSome(x, 6, 99, false);
        due("debts alone", x.settle(), 0);
        due("they stay", x.board(6, 1), 99);
        pourSome(x, 5, 99, true);
        due("all D to M, 49 of them, and each pays", x.settle(), 98);
        due("one D", x.board(5, 0), 1);
        due("50 M are owed", x.board(6, 1), 50);
    }

    private static void stepsOfTheLatest() {
        about(19, "The i-th STEP of the latest SETTLING: 10 times its sort, and its SIGN (i from 0); "
            + "NONE: there is none (i below 0, too).");
        LetterSums x = settled("M", "I", 16, 15, 14, 13, 12, 11, 0);
        for (int i : new int[] {LEAST, -2, -1, 7, 8, 299, 300, GREATEST}) {
            due("step " + i, x.step(i), NONE);
        }
        due("the steps stay when the board changes", x.sweep() > 0 ? x.step(0) : 0, 16);
        due("settled anew, without a step", x.settle(), 0);
        due("none of the former ones is left", x.step(0), NONE);
        due("count(6)", x.count(6), 0);
    }

    private static void worthOfTheBoard() {
        about(20, "THE WORTH of THE BOARD: that of GIVEN ones less OWED ones.");
        LetterSums x = new LetterSums();
        due("empty", x.holds(), 0);
        for (int sign = 0; sign < 7; sign++) {
            pourSome(x, sign, 99, true);
        }
        due("the greatest", x.holds(), 99 * 1666);
        for (int sign = 0; sign < 7; sign++) {
            pourSome(x, sign, 99, false);
        }
        due("all given, all owed", x.holds(), 0);
        LetterSums debts = new LetterSums();
        for (int sign = 0; sign < 7; sign++) {
            pourSome(debts, sign, 99, false);
        }
        due("the least", debts.holds(), -99 * 1666);
    }

    private static void lifting() {
        about(21, "ROW r becomes what is GIVEN, the greatest SIGNS first (THE BOARD stays): its length. UNKNOWN; "
            + "STATE: something is OWED, nothing is GIVEN, or more than 24 are.");
        LetterSums x = new LetterSums();
        refused("an empty board", x, (y, r) -> y.lift(r), STATE, 0, 11);
        refused("UNKNOWN ahead of STATE", x, (y, r) -> y.lift(r), UNKNOWN, LEAST, -1, 12, GREATEST);
        pourSome(x, 6, 1, false);
        refused("something is owed, nothing given", x, x.digest(), x.lift(0), STATE);
        pourSome(x, 0, 23, true);
        refused("something is owed, 23 given", x, x.digest(), x.lift(0), STATE);
        x.sweep();
        pourSome(x, 0, 1, true);
        due("one", x.lift(0), 1);
        same(x, 0, "I");
        pourSome(x, 6, 22, true);
        due("23", x.lift(10), 23);
        same(x, 10, "M".repeat(22) + "I");
        pourSome(x, 1, 1, true);
        due("24", x.lift(0), 24);
        same(x, 0, "M".repeat(22) + "VI");
        due("the board stays", x.board(6, 0) * 10000 + x.board(1, 0) * 100 + x.board(0, 0), 220101);
        due("the last row", x.lift(11), 24);
        pourSome(x, 2, 1, true);
        refused("25", x, (y, r) -> y.lift(r), STATE, 0, 11);
        refused("r", x, (y, r) -> y.lift(r), UNKNOWN, -1, 12);
        due("25 are there", x.sweep(), 25);
        pourSome(x, 0, 99, true);
        refused("99", x, x.digest(), x.lift(0), STATE);
    }

    private static void sweeping() {
        about(22, "THE BOARD is empty: GIVEN and OWED SIGNS that there were.");
        LetterSums x = new LetterSums();
        due("empty", x.sweep(), 0);
        for (int sign = 0; sign < 7; sign++) {
            pourSome(x, sign, 99, true);
            pourSome(x, sign, 99, false);
        }
        due("full", x.sweep(), 2 * 7 * 99);
        board(x, 0, 0, 0, 0, 0, 0, 0, 0);
        board(x, 1, 0, 0, 0, 0, 0, 0, 0);
        due("empty again", x.sweep(), 0);
        LetterSums y = settled("V", "I", 11, 0);
        due("what is left of it", y.sweep(), 4);
        due("the steps stay", y.count(6), 2);
    }

    private static void factorsOfTimes() {
        about(0, "TIMES: a (1 to 9999) in one column, b (1 to 9999) beside it");
        LetterSums x = new LetterSums();
        due("least", x.times(1, 1, 0), 1);
        due("greatest a", x.times(9999, 1, 0), 9999);
        due("greatest b", x.times(1, 9999, 0), 9999);
        due("greatest", x.times(9999, 9999, 0), 99980001);
        refused("a", x, (y, a) -> y.times(a, 1, 0), OUTSIDE, LEAST, -1, 0, 10000, GREATEST);
        refused("b", x, (y, b) -> y.times(1, b, 0), OUTSIDE, LEAST, -1, 0, 10000, GREATEST);
        refused("a, of a line that is not there", x, (y, a) -> y.times(a, 1, 29), OUTSIDE, 0, 10000);
        about(23, "what = 0 the product, 1 how many lines, 10 and i a, 30 and i b of the i-th line (i from 0, to 19; "
            + "NONE: there is none). OUTSIDE.");
        refused("what", x, (y, what) -> y.times(3, 5, what), OUTSIDE, LEAST, -1, 2, 3, 9, 50, 51, GREATEST);
        due("a of line 0", x.times(3, 5, 10), 3);
        due("a of line 1", x.times(3, 5, 11), 1);
        due("a of line 2", x.times(3, 5, 12), NONE);
        due("a of line 19", x.times(3, 5, 29), NONE);
        due("b of line 0", x.times(3, 5, 30), 5);
        due("b of line 1", x.times(3, 5, 31), 10);
        due("b of line 2", x.times(3, 5, 32), NONE);
        due("b of line 19", x.times(3, 5, 49), NONE);
        due("the last of the longest", x.times(9999, 9999, 23), 1);
        due("its b", x.times(9999, 9999, 43), 9999 << 13);
        due("behind it", x.times(9999, 9999, 24), NONE);
        due("b behind it", x.times(9999, 9999, 44), NONE);
    }

    private static void linesOfTimes() {
        about(0, "in each next line the half of a, rounded down, and the double of b, until a is 1: the sum of all b beside odd a.");
        LetterSums x = new LetterSums();
        for (int power = 0; power <= 13; power++) {
            int a = 1 << power;
            due("lines of " + a, x.times(a, 7, 1), power + 1);
            due("lines of " + (a + 1), x.times(a + 1, 7, 1), a == 1 ? 2 : power + 1);
            due("the last a", x.times(a, 7, 10 + power), 1);
            due("the last b", x.times(a, 7, 30 + power), 7 * a);
            due("behind the last", x.times(a, 7, 11 + power), NONE);
            due("one odd a alone", x.times(a, 7, 0), 7 * a);
            if (power > 0) {
                due("lines of " + (a - 1), x.times(a - 1, 7, 1), power);
                due("odd ones all", x.times(a - 1, 7, 0), 7 * (a - 1));
            }
        }
        due("rounded down", x.times(7, 1, 11), 3);
    }

    private static void numbersOfParts() {
        about(24, "PARTS: what = 0 the sum, 1 what is left, 2 how many lines, 3 the lines taken, as bits (the first lowest). "
            + "OUTSIDE: a (0 to 9999), b (1 to 9999), what.");
        LetterSums x = new LetterSums();
        int[][] cases = {{0, 1, 0, 0, 0, 0}, {0, 9999, 0, 0, 0, 0}, {1, 1, 1, 0, 1, 1}, {9999, 1, 9999, 0, 14, 9999},
            {9999, 9999, 1, 0, 1, 1}, {9998, 9999, 0, 9998, 0, 0}, {9999, 9998, 1, 1, 1, 1}, {9999, 2, 4999, 1, 13, 4999}};
        for (int[] one : cases) {
            for (int what = 0; what <= 3; what++) {
                due("parts(" + one[0] + ", " + one[1] + ", " + what + ")", x.parts(one[0], one[1], what), one[2 + what]);
            }
        }
        refused("a", x, (y, a) -> y.parts(a, 1, 0), OUTSIDE, LEAST, -1, 10000, GREATEST);
        refused("b", x, (y, b) -> y.parts(1, b, 0), OUTSIDE, LEAST, -1, 0, 10000, GREATEST);
        refused("what", x, (y, what) -> y.parts(1, 1, what), OUTSIDE, LEAST, -1, 4, GREATEST);
        refused("b, where a is 0", x, (y, b) -> y.parts(0, b, 1), OUTSIDE, 0, 10000);
    }

    private static void linesOfParts() {
        about(0, "PARTS: lines 1 and b, each next one their doubles, while b is at most a (none, if b is above a at once)");
        LetterSums x = new LetterSums();
        for (int power = 0; power <= 10; power++) {
            int b = 9 << power;
            due("b is just a", x.parts(b, 9, 2), power + 1);
            due("b is just above a", x.parts(b - 1, 9, 2), power);
            due("b is just below a", x.parts(b + 1, 9, 2), power + 1);
            due("the last line alone", x.parts(b, 9, 3), 1 << power);
            due("all lines ahead", x.parts(b - 1, 9, 3), (1 << power) - 1);
        }
        about(0, "each b that is not above what is left of a is taken from it: the sum of the lines' first numbers; what is left.");
        due("b is just what is left", x.parts(27, 9, 3), 3);
        due("nothing is left", x.parts(27, 9, 1), 0);
        due("one less", x.parts(26, 9, 3), 2);
        due("8 are left", x.parts(26, 9, 1), 8);
        due("one more", x.parts(28, 9, 1), 1);
    }
}
