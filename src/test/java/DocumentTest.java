import java.io.IOException;
import java.nio.file.Files;
import java.nio.file.Path;
import java.util.ArrayList;
import java.util.Arrays;
import java.util.List;
import java.util.TreeMap;

/**
 * The document from its first line to its last: each of its sentences in turn, with what it asks.
 * A sentence that is left out, or that the document no longer has, is a fault.
 */
public final class DocumentTest extends Bench {
    private static String document = "";
    private static int at = 0;

    public static void main(String[] args) throws IOException {
        document = sentencesOf(Files.readString(Path.of("../shared/DOC.md")));
        whatItIs();
        rowsAndCustoms();
        writings();
        orderOfWritings();
        theBoard();
        settling();
        timesAndParts();
        stonesAndMasons();
        accounts();
        refusalsAndCalls();
        DocumentPromises.test();
        due("signs of the document behind its last sentence", document.length() - at, 0);
        report("DocumentTest");
    }

    /** Without headings, the face, marks of parts and what each promise is headed with: FaceTest has these. */
    private static String sentencesOf(String text) {
        return text.replaceAll("(?s)```java.*?```", " ").replaceAll("(?m)^(#.*|```.*)$", " ")
            .replaceAll("======== [0-9] ", " ").replaceAll("(?m)^`[^`]*`: ", " ").replaceAll("\\s+", " ").strip();
    }

    static void next(int number, String quote) {
        about(number, quote);
        boolean follows = document.startsWith(quote, at);
        due("(it follows the sentence ahead)", follows ? 1 : 0, 1);
        at += follows ? quote.length() : 0;
        while (at < document.length() && document.charAt(at) == ' ') {
            at++;
        }
    }

    static void keepsAll(String rules, int want, String... texts) {
        for (String text : texts) {
            due(text + " by " + rules, keeps(rules, text), want);
        }
    }

    static void stepsAre(LetterSums x, int... steps) {
        due("settle()", x.settle(), steps.length);
        for (int i = 0; i < steps.length; i++) {
            due("step " + i, x.step(i), steps[i]);
        }
        due("no step more", x.step(steps.length), NONE);
    }

    static void saysAll(LetterSums x, int k, int... worths) {
        due("could", x.could(k), worths.length);
        for (int i = 0; i < worths.length; i++) {
            due("says " + i, x.says(k, i), worths[i]);
        }
    }

    static void slipIs(LetterSums x, int part, int sort, int place, int sign) {
        int[] want = {part, sort, place, sign};
        for (int what = 0; what < 4; what++) {
            due("slip(" + what + ")", x.slip(what), want[what]);
        }
    }

    // ---- what it is

    private static void whatItIs() {
        next(0, "Sums in letters: numbers written by letters; customs read from texts, what may stand ahead of what, "
            + "how many alike; all writings of a number by a custom, the shortest; worth of any row; sums by pushing "
            + "letters together, with debts paid, bundled, step by step; times by halves and doubles, parts by doubles; "
            + "stones with lost strokes and broken ends, what they may say, what is sure; masons known by their customs; "
            + "accounts, the first wrong line, one that mends it, and the one stroke that explains it.");
        LetterSums x = customs(USUAL, OLD);
        due("27 times 82 is written", x.write(0, 0, x.times(27, 82, 0), NONE), 7);
        same(x, 0, "MMCCXIV");
        due("a part of it is written", x.write(1, 1, x.parts(2214, 82, 0), NONE), 5);
        same(x, 1, "XXVII");
        x.pour(0, true);
        x.pour(1, false);
        x.settle();
        due("their difference", x.holds(), 2187);
        stone(x, "MM.CXIV");
        saysAll(x, 0, 2214, 2614, 3114);
        due("what is lost is not sure", x.sure(0, 2), NONE);
        due("what stands is", x.sure(0, 3), 4);
        x.note(0, 0);
        due("the mason is known", x.habit(0), 1);
        x.line(0, 1);
        due("the line is wrong", x.wrong(), 0);

        next(0, "SIGNS 0 to 13 are I V X L C D M i v x l c d m, WORTH 1, 5, 10, 50, 100, 500, 1000, "
            + "1000, 5000, 10000, 50000, 100000, 500000, 1000000.");
        for (int sign = 0; sign < 14; sign++) {
            LetterSums y = new LetterSums();
            row(y, 0, SIGNS.substring(sign, sign + 1));
            due("number of " + SIGNS.charAt(sign), y.sign(0, 0), sign);
            due("worth of " + SIGNS.charAt(sign), y.worth(0), WORTH[sign]);
        }

        next(0, "An object is used for at most 512 calls after it has been made; what later calls answer is free.");
        LetterSums z = new LetterSums();
        for (int call = 1; call <= 509; call += 2) {
            due("call " + call, z.letters('X'), 1);
            due("call " + (call + 1), z.row(call % 12), 1);
        }
        due("call 511", z.pour(1, true), 1);
        due("call 512", z.holds(), 10);
    }

    // ---- rows, customs, writings

    private static void rowsAndCustoms() {
        next(0, "A ROW is 1 to 24 SIGNS.");
        for (int length : new int[] {0, 1, 24, 25}) {
            due(length + " signs", row(new LetterSums(), 0, "m".repeat(length)), length % 25 == 0 ? STATE : length);
        }
        next(0, "A SIGN in it is TAKEN, if the next SIGN behind it that is unlike it is one of a greater number; else GIVEN.");
        LetterSums x = new LetterSums();
        row(x, 0, "XIIVX");
        x.pour(0, true);
        due("X given", x.board(2, 0), 2);
        due("I, I taken", x.board(0, 1), 2);
        due("V taken", x.board(1, 1), 1);
        due("no more", x.sweep(), 5);
        next(0, "(Signs are told by number; M and i are unlike, though WORTH as much.)");
        due("MMi", worthOf("MMi"), -1000);
        due("iMM", worthOf("iMM"), 3000);
        due("MiM", worthOf("MiM"), 1000);
        next(0, "THE WORTH of a ROW: that of GIVEN ones less that of TAKEN ones.");
        due("XIIVX", worthOf("XIIVX"), 13);
        due("IIIIIIV", worthOf("IIIIIIV"), -1);

        next(0, "A CUSTOM is a text of RULES with \",\" between: a SIGN and a digit 1 to 9 (its COUNT), or a SIGN, \"<\" and one or "
            + "more SIGNS, each WORTH more than it (it MAY be taken ONCE from each of these), or a SIGN, \"<<\" and one or "
            + "more SIGNS, each WORTH more than twice as much (TWICE).");
        for (String text : new String[] {"I1", "m9", "I<V", "I<VXLCDMivxlcdm", "I<<V", "X<<L", "M<<v", "i<v", "d<m", "c<<d",
            "I1,I1", "I<VV", "D<i", "L<<i", "I<<mX,m1"}) {
            due("custom() of " + text, custom(new LetterSums(), text), 0);
        }
        for (String text : new String[] {"", "I", "I0", "I<", "I<<", "I<I", "V<<X", "D<<M", "D<<i", "d<<m", "V<I", "M<i", "i<M",
            "I1;V1", "I1,,V1", ",I1", "I1,", "I11", "I<V<X", "I<<<V", "1I", "I<XI", "V<<LX", "I1 ", "I,V1", "I<1"}) {
            due("custom() of " + text, custom(new LetterSums(), text), STATE);
        }
        next(0, "COUNTS not told are 0; of one SIGN the later COUNT holds; what MAY be taken is gathered from all RULES "
            + "(\"<<\" alone does not let it be taken ONCE).");
        LetterSums y = customs("I2,V3,I5,I<V,I<X,X<<C,I<<X,I<<L");
        int[][] want = {{5, 1 << 1 | 1 << 2, 1 << 2 | 1 << 3}, {3, 0, 0}, {0, 0, 1 << 4}, {0, 0, 0}};
        for (int sign = 0; sign < want.length; sign++) {
            for (int what = 0; what < 3; what++) {
                due("asks(0, " + sign + ", " + what + ")", y.asks(0, sign, what), want[sign][what]);
            }
        }
    }

    private static void writings() {
        next(0, "A WRITING by a CUSTOM is a ROW of PIECES: PLAIN, one SIGN; or A TAKING of a from b: a b (ONCE), a a b (TWICE), as it MAY be.");
        keepsAll("I2,X2,I<V,I<<X,X<<C", 1, "I", "X", "IV", "IIX", "XXC", "XXII");
        keepsAll("I2,X2,I<V,I<<X,X<<C", 0, "IX", "IIV", "XC", "V", "C", "IIIX", "XXXC");
        next(0, "The HEAD of a PIECE is its last SIGN.");
        keepsAll("V1,X2,I<X", 1, "XIX", "XXIX", "XV");
        keepsAll("V1,X2,I<X", 0, "VIX", "XVIX", "IXX");
        next(0, "HEADS never grow by number; of like HEADS PLAIN ones come first, at most as many as COUNT tells, then one TAKING at most; "
            + "behind a TAKING of a all SIGNS are of less number than a.");
        String rules = "I3,V1,X2,I<VX,V<X";
        keepsAll(rules, 1, "XXIX", "XXVX", "XXVXI", "VXIII", "IV", "VIV", "VI", "XXVIII", "XIX", "XVIV", "XVX");
        keepsAll(rules, 0, "XXXIX", "XXXVI", "XXVXV", "XXVXIV", "IXI", "IXIX", "IXX", "VXIX", "VVIV", "IVI", "IIII", "VXX", "IVIV");
        next(0, "(There is at most one way to cut a ROW so.)");
        String[] all = {"I3,V2,X2,C1,I<VXC,V<XC,X<C,I<<VXC,X<<C", "I2,I<<V,I<V,V<<C,V<X,C2", "I<VXC,I<<VXC,V<XC,V<<C,X<C,X<<C", "I9,X1,I<X"};
        List<String> rows = allRows("IVXC", 5);
        for (String text : all) {
            Plain.Rule rule = Plain.readCustom(text);
            LetterSums x = customs(text);
            for (int i = 0; i < rows.size(); i++) {
                x = i % 100 == 0 ? customs(text) : x;
                row(x, 0, rows.get(i));
                List<Integer> cuts = worthsOfCuts(rows.get(i), 0, rule, new ArrayList<>(), 0);
                due(rows.get(i) + " by " + text, x.keeps(0, 0), cuts.size());
                due("worth of " + rows.get(i), cuts.isEmpty() ? 0 : x.worth(0), cuts.isEmpty() ? 0 : cuts.get(0));
            }
        }
        next(0, "THE WORTH of it is as told above.");
        due("takings count as told by rows", keeps("I1,V1,X1,I<X,X<C", "XCIX"), 0);
        due("XCVI", keeps("I1,V1,X1,I<X,X<C", "XCVI") * worthOf("XCVI"), 96);
    }

    /** All rows of up to so many of some signs. */
    private static List<String> allRows(String signs, int most) {
        List<String> all = new ArrayList<>(List.of(""));
        for (int i = 0; i < all.size(); i++) {
            for (int s = 0; s < signs.length() && all.get(i).length() < most; s++) {
                all.add(all.get(i) + signs.charAt(s));
            }
        }
        return all.subList(1, all.size());
    }

    /** Of each way to cut a row into pieces the sum of their worths. */
    private static List<Integer> worthsOfCuts(String row, int from, Plain.Rule rule, List<int[]> ahead, int sum) {
        List<Integer> all = new ArrayList<>();
        if (!Plain.inOrder(ahead, rule)) {
            return all;
        }
        if (from == row.length()) {
            all.add(sum);
        }
        for (int n = 1; n <= 3 && from + n <= row.length(); n++) {
            int a = Plain.sg(row.charAt(from));
            int head = Plain.sg(row.charAt(from + n - 1));
            boolean may = n == 1 || n == 2 && rule.once[a][head]
                || n == 3 && rule.twice[a][head] && row.charAt(from + 1) == row.charAt(from);
            if (may) {
                List<int[]> with = new ArrayList<>(ahead);
                with.add(new int[] {head, n == 1 ? -1 : a, n - 1});
                all.addAll(worthsOfCuts(row, from + n, rule, with, sum + WORTH[head] - (n - 1) * WORTH[a]));
            }
        }
        return all;
    }

    private static void orderOfWritings() {
        next(0, "ORDER of WRITINGS: the one comes first that has, for the greatest HEAD at which they differ, more PLAIN ones; "
            + "of like ones the one without A TAKING there, then with one ONCE, then TWICE; of like ones the one with the greater a.");
        // no writing by these is longer than 8 signs
        for (String text : new String[] {"I4,V2,X2,I<VX,V<X,I<<VX", "I3,V1,X1,V<X,I<<X,I<V", "I6,I<VX,I<<XV,V<X"}) {
            Plain.Rule rule = Plain.readCustom(text);
            TreeMap<Integer, List<String>> byWorth = new TreeMap<>();
            for (String row : allRows("IVX", 8)) {
                if (Plain.isWriting(row, rule)) {
                    byWorth.computeIfAbsent(worthOf(row), n -> new ArrayList<>()).add(row);
                }
            }
            for (int n : byWorth.keySet()) {
                List<String> due = byWorth.get(n);
                due.sort((s, t) -> Arrays.compare(placeInOrder(s), placeInOrder(t)));
                LetterSums x = customs(text);
                due("ways of " + n + " by " + text, x.ways(0, n), due.size());
                for (int i = 0; i < due.size(); i++) {
                    due("writing " + i + " of " + n + " by " + text, x.write(0, 0, n, i), due.get(i).length());
                    same(x, 0, due.get(i));
                }
            }
        }
    }

    /** Of each head, the greatest first: how many plain ones (more come first), which taking, its a (the greater comes first). */
    private static int[] placeInOrder(String row) {
        int[] place = new int[9];
        for (int i = 0; i < row.length(); i++) {
            int sign = SIGNS.indexOf(row.charAt(i));
            int head = sign;
            int n = 0;
            while (Plain.taken(row, i) && row.charAt(i + n) == row.charAt(i)) {
                n++;
                head = SIGNS.indexOf(row.charAt(i + n));
            }
            int first = 3 * (2 - head);
            if (n == 0) {
                place[first]--;
            } else {
                place[first + 1] = n;
                place[first + 2] = -sign;
            }
            i += n;
        }
        return place;
    }

    // ---- the board

    private static void theBoard() {
        next(0, "THE BOARD has, of SIGNS 0 to 6, so many GIVEN and so many OWED (0 at first, 99 at most each).");
        for (int sign = 0; sign < 7; sign++) {
            for (int side = 0; side < 2; side++) {
                LetterSums x = new LetterSums();
                due("at first", x.board(sign, side), 0);
                pourSome(x, sign, 99, side == 0);
                due("at most", x.board(sign, side), 99);
                due("the other side", x.board(sign, 1 - side), 0);
                row(x, 0, SIGNS.substring(sign, sign + 1));
                due("one more", x.pour(0, side == 0), FULL);
            }
        }
        next(0, "POURED in, a ROW's GIVEN ones are GIVEN, its TAKEN ones OWED more; POURED out, the other way round.");
        LetterSums x = new LetterSums();
        row(x, 0, "XIIVX");
        due("in", x.pour(0, true), 5);
        due("out", x.pour(0, false), 10);
        int[] both = {2, 1, 2, 0, 0, 0, 0};
        for (int sign = 0; sign < 7; sign++) {
            due("given", x.board(sign, 0), both[sign]);
            due("owed", x.board(sign, 1), both[sign]);
        }
        next(0, "BUNDLING of a SIGN below 6: five of I, X, C or two of V, L, D go, one of the next SIGN comes; "
            + "UNBUNDLING of a SIGN above 0: the other way round.");
        int[] bundles = {5, 2, 5, 2, 5, 2};
        for (int sign = 0; sign < 6; sign++) {
            LetterSums y = new LetterSums();
            pourSome(y, sign, bundles[sign] - 1, true);
            due("one too few", y.bundle(sign), STATE);
            pourSome(y, sign, 1, true);
            due("bundle", y.bundle(sign), 1);
            due("they go", y.board(sign, 0), 0);
            due("unbundle", y.unbundle(sign + 1), bundles[sign]);
            due("it goes", y.board(sign + 1, 0), 0);
        }
    }

    private static LetterSums boardOf(String given, String owed) {
        LetterSums x = new LetterSums();
        for (int sign = 0; sign < 7; sign++) {
            char letter = SIGNS.charAt(sign);
            pourSome(x, sign, (int) given.chars().filter(c -> c == letter).count(), true);
            pourSome(x, sign, (int) owed.chars().filter(c -> c == letter).count(), false);
        }
        return x;
    }

    private static void settling() {
        next(0, "SETTLING: again and again, the first of these that can be: the least SIGN that is both GIVEN and OWED: one of each goes (sort 0); "
            + "if some SIGN is OWED: with a the least that is, the least GIVEN SIGN above a is UNBUNDLED (sort 1); "
            + "the least GIVEN SIGN that can be is BUNDLED (sort 2).");
        stepsAre(boardOf("XCLL", "I"), 12, 11, 0, 23);
        stepsAre(boardOf("MXXI", "XXII"), 0, 2, 2, 16, 15, 14, 13, 12, 11, 0);
        stepsAre(boardOf("IIIIIV", "X"), 20, 21, 2);
        stepsAre(boardOf("IIIIILL", "V"), 13, 12, 1, 20, 21, 22, 23);
        stepsAre(boardOf("DDLLVV", ""), 21, 23, 25);
        next(0, "It ends when none can be, or behind 300 STEPS, or ahead of a STEP by which something would be more than 99.");
        stepsAre(boardOf("IIIIV", "X"));
        stepsAre(boardOf("M".repeat(99) + "DCLXVI", ""));
        stepsAre(boardOf("I".repeat(10) + "V".repeat(98), ""), 20);
        stepsAre(boardOf("II" + "V".repeat(3) + "X".repeat(99), ""));
        LetterSums x = boardOf("I".repeat(99) + "V".repeat(99) + "X".repeat(99) + "L".repeat(99),
            "I".repeat(99) + "V".repeat(99) + "X".repeat(99) + "L".repeat(99));
        due("300", x.settle(), 300);
        due("L is left", x.board(3, 0) * 100 + x.board(3, 1), 9696);
        due("the rest", x.settle(), 96);
    }

    private static void timesAndParts() {
        next(0, "TIMES: a (1 to 9999) in one column, b (1 to 9999) beside it; in each next line the half of a, rounded down, "
            + "and the double of b, until a is 1: the sum of all b beside odd a.");
        LetterSums x = new LetterSums();
        int[][] lines = {{13, 7}, {6, 14}, {3, 28}, {1, 56}};
        due("lines", x.times(13, 7, 1), 4);
        for (int i = 0; i < 4; i++) {
            due("a", x.times(13, 7, 10 + i), lines[i][0]);
            due("b", x.times(13, 7, 30 + i), lines[i][1]);
        }
        due("7, 28, 56", x.times(13, 7, 0), 91);
        for (int a = 1; a <= 9999; a += 101) {
            due("it is the product", new LetterSums().times(a, 10000 - a, 0), a * (10000 - a));
        }
        next(0, "PARTS: lines 1 and b, each next one their doubles, while b is at most a (none, if b is above a at once); "
            + "from the last line up, each b that is not above what is left of a is taken from it: "
            + "the sum of the lines' first numbers; what is left.");
        due("7, 14, 28, 56", x.parts(100, 7, 2), 4);
        due("56, 28, 14 are taken", x.parts(100, 7, 3), 14);
        due("8, 4, 2", x.parts(100, 7, 0), 14);
        due("2 are left", x.parts(100, 7, 1), 2);
        due("above at once", x.parts(6, 7, 2), 0);
        for (int b = 1; b <= 9999; b += 101) {
            due("how often", new LetterSums().parts(9999, b, 0), 9999 / b);
            due("what is left", new LetterSums().parts(9999, b, 1), 9999 % b);
        }
    }

    // ---- stones, masons, accounts

    private static void stonesAndMasons() {
        next(0, "A STONE is a ROW of 1 to 20 SIGNS or gaps (one SIGN lost; 3 gaps at most), perhaps broken at its end (then perhaps one SIGN more).");
        for (String text : new String[] {".", "X", "...", "X...", ".*", "m".repeat(20), "m".repeat(17) + "...*"}) {
            due("stone() of " + text, stone(new LetterSums(), text), text.replace("*", "").length());
        }
        for (String text : new String[] {"", "*", "....", "X.X.X.X.", "m".repeat(21), "m".repeat(21) + "*", "X*X", "*X", "X**", "X,", "?"}) {
            due("stone() of " + text, stone(new LetterSums(), text), STATE);
        }
        next(0, "FILLINGS by a CUSTOM: WRITINGS as it may have been.");
        LetterSums x = customs("I2,V1,I<V");
        stone(x, ".I");
        saysAll(x, 0, 2, 6);
        stone(x, "I.");
        saysAll(x, 0, 2, 4);
        next(0, "SAYS: the WORTHS of FILLINGS.");
        stone(x, ".I*");
        saysAll(x, 0, 2, 6, 7, 9);
        next(0, "SURE of a place: that SIGN, if in all FILLINGS it is the same.");
        due("I or V", x.sure(0, 0), NONE);
        due("I", x.sure(0, 1), 0);
        stone(x, ".V");
        due("I alone", x.sure(0, 0), 0);

        next(0, "MASONS 0 to 5: a ROW is noted as theirs.");
        LetterSums y = customs("I2", "I3,V1", "V1,I<V");
        for (int m = -1; m <= 6; m++) {
            due("note(" + m + ", 0)", y.note(m, 0), m < 0 || m > 5 ? UNKNOWN : 1);
        }
        next(0, "HABIT of one: all CUSTOMS by which all ROWS noted as theirs are WRITINGS.");
        row(y, 1, "III");
        row(y, 2, "IV");
        row(y, 3, "VIII");
        row(y, 4, "II");
        due("by two", y.habit(0), 3);
        y.note(0, 1);
        due("by the second", y.habit(0), 2);
        y.note(1, 2);
        due("by none", y.habit(1), 0);
        next(0, "A ROW MAY be theirs, if it is a WRITING by some CUSTOM of the HABIT.");
        due("II: by the first and the second", y.hands(4), 1 | 4 | 8 | 16 | 32);
        due("VIII: by the second", y.hands(3), 1 | 4 | 8 | 16 | 32);
        due("IV: by the third, which is no one's", y.hands(2), 0);
    }

    private static void accounts() {
        next(0, "AN ACCOUNT has LINES (20 at most): an amount and a total, each a ROW.");
        LetterSums x = new LetterSums();
        for (int i = 1; i <= 21; i++) {
            due("line " + i, x.line(0, 0), i > 20 ? FULL : i);
        }
        next(0, "Its first WRONG LINE: the total is not the amount and the total of the LINE ahead (0 ahead of all).");
        due("0 ahead of all", account("X", "XI").wrong(), 0);
        due("the total ahead counts, not the sum", account("X", "X", "X", "XV", "X", "XXX").wrong(), 1);
        due("the first alone", account("X", "V", "X", "V").wrong(), 0);
        due("none", account("X", "X", "X", "XX").wrong(), NONE);
        next(0, "It is MENDED at the first LINE behind the first WRONG one, whose total is the sum of all amounts so far.");
        due("at 3", account("X", "X", "X", "XV", "X", "XXV", "X", "XL").mended(), 3);
        due("at the first of two", account("X", "V", "X", "XX", "X", "XXX").mended(), 1);
        due("not ahead of it", account("X", "X", "X", "XV").mended(), NONE);
        next(0, "A SLIP explains the first WRONG LINE: one SIGN left out (sort 0), one too much (1), one in place of another one (2), "
            + "of its amount (part 0) or its total (1): with it put right it would not be WRONG; "
            + "of several the first by part, then sort, then place, then SIGN.");
        slipIs(account("XI", "XII"), 0, 0, 1, 0);
        slipIs(account("XIII", "XII"), 0, 0, 0, 0);
        slipIs(account("LX", "X"), 0, 1, 0, NONE);
        slipIs(account("XV", "XI"), 0, 2, 1, 0);
        slipIs(account("M", "II"), 1, 0, 1, 6);
        slipIs(account("X", "X", "XI", "XXII"), 0, 0, 1, 0);
        slipIs(account("X", "X", "X", "XX"), NONE, NONE, NONE, NONE);
        next(0, "(Left out: a SIGN is put in ahead of that place, 0 to the length; at most 24 then. A ROW stays of one SIGN at least.)");
        slipIs(account("X", "IX"), 0, 0, 0, 0);
        slipIs(account("X", "XM"), 0, 0, 1, 6);
        slipIs(account("M".repeat(23), "M".repeat(23) + "I"), 0, 0, 23, 0);
        slipIs(account("I".repeat(24), "XXV"), 0, 2, 4, 2);
        slipIs(account("X", "VVX"), 1, 0, 0, 2);
    }

    private static void refusalsAndCalls() {
        next(0, "Refusals, of several the first as told by each call: UNKNOWN (a number names nothing), OUTSIDE (it is not as told), "
            + "STATE (as told), FULL; they change nothing.");
        LetterSums x = customs(USUAL);
        refused("UNKNOWN of three", x, x.digest(), x.sure(1, 20), UNKNOWN);
        refused("OUTSIDE of two", x, x.digest(), x.sure(0, 20), OUTSIDE);
        refused("STATE", x, x.digest(), x.sure(0, 19), STATE);
        for (int i = 0; i < 10; i++) {
            x.letters(packed("AAAAAAAA"));
        }
        refused("FULL", x, x.digest(), x.letters('A'), FULL);
        String[] groups = {
            "Ahead of the calls `letters`, `blank`, `good`, `custom`, `asks` the interface says: ---- the page.",
            "Ahead of the calls `row`, `sign`, `worth`, `keeps`, `begins`, `ways`, `write` the interface says: ---- rows (0 to 11; I alone at first).",
            "Ahead of the calls `board`, `pour`, `bundle`, `unbundle`, `settle`, `step`, `holds`, `lift`, `sweep` the interface says: ---- the board.",
            "Ahead of the calls `times`, `parts` the interface says: ---- times, parts.",
            "Ahead of the calls `stone`, `could`, `says`, `sure` the interface says: ---- stones.",
            "Ahead of the calls `note`, `habit`, `hands` the interface says: ---- masons.",
            "Ahead of the calls `line`, `tear`, `wrong`, `mended`, `slip` the interface says: ---- accounts.",
            "Ahead of the calls `count`, `digest` the interface says: ---- what is told."};
        for (String group : groups) {
            next(0, group);
        }
        for (int r = -1; r <= 12; r++) {
            due("worth(" + r + ")", new LetterSums().worth(r), r < 0 || r > 11 ? -100000001 : 1);
        }
    }
}
