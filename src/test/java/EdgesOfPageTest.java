/** The boundary cases of the page, of customs and of rows: promises 1 to 8, and the terms they rest on. */
public final class EdgesOfPageTest extends Bench {
    /** 80 letters, and a custom. */
    private static final String LONGEST = "X3,".repeat(26) + "X4";

    public static void main(String[] args) {
        aNewObject();
        lettersAtEachByte();
        lettersUpToEight();
        lettersBehindThePage();
        emptyAndFullBlank();
        goodLetters();
        digitsOfCounts();
        signsWorthMore();
        signsWorthMoreThanTwice();
        rulesWithCommas();
        countsAndTakingsTold();
        readingCustoms();
        asking();
        readingRows();
        signsOfRows();
        coversPromises(1, 8);
        report("EdgesOfPageTest");
    }

    private static void aNewObject() {
        about(1, "Nothing is there.");
        LetterSums x = new LetterSums();
        refused("custom 0", x, (y, k) -> y.asks(k, 0, 0), UNKNOWN, 0);
        refused("a custom of no letters", x, (y, n) -> y.custom(), STATE, 0);
        refused("a row of no letters", x, (y, r) -> y.row(r), STATE, 0);
        refused("a stone of no letters", x, (y, n) -> y.stone(), STATE, 0);
        due("letters", x.blank(), 0);
        due("letters that begin a custom", x.good(), 0);
        due("the board", x.sweep(), 0);
        due("its worth", x.holds(), 0);
        due("steps", x.settle(), 0);
        due("the first step", x.step(0), NONE);
        due("lines", x.tear(), 0);
        due("a wrong line", x.wrong(), NONE);
        due("a mended one", x.mended(), NONE);
        for (int what = 0; what <= 3; what++) {
            due("slip(" + what + ")", x.slip(what), NONE);
        }
        for (int m = 0; m < 6; m++) {
            due("habit", x.habit(m), 0);
        }
        for (int what = 0; what <= 6; what++) {
            due("count(" + what + ")", x.count(what), 0);
        }
        about(0, "rows (0 to 11; I alone at first)");
        for (int r = 0; r <= 11; r++) {
            same(x, r, "I");
            due("hands", x.hands(r), 0);
        }
    }

    private static long word(int letters, int at, int code) {
        return packed("IIIIIIII".substring(0, letters)) | (long) code << 8 * at;
    }

    private static void lettersAtEachByte() {
        about(2, "OUTSIDE: a byte above 126, or one behind a 0 that is not 0");
        LetterSums x = page("XI");
        for (int at = 0; at < 8; at++) {
            for (int code : new int[] {127, 128, 255}) {
                refused("code " + code + " at " + at, x, x.digest(), x.letters(word(at, at, code)), OUTSIDE);
            }
            for (int code : new int[] {1, 126}) {
                x.blank();
                due("code " + code + " at " + at, x.letters(word(at, at, code)), at + 1);
            }
        }
        for (int zero = 0; zero < 7; zero++) {
            x.blank();
            due("a 0 at " + zero, x.letters(word(zero, zero, 0)), zero);
            for (int later = zero + 1; later < 8; later++) {
                refused("0 at " + zero + ", 1 at " + later, x, x.digest(), x.letters(word(zero, later, 1)), OUTSIDE);
            }
            refused("0 at " + zero + ", 126 last", x, x.digest(), x.letters(word(zero, 7, 126)), OUTSIDE);
        }
        refused("all bits", x, x.digest(), x.letters(-1), OUTSIDE);
        refused("the last byte's highest bit", x, x.digest(), x.letters(Long.MIN_VALUE), OUTSIDE);
        refused("the greatest", x, x.digest(), x.letters(Long.MAX_VALUE), OUTSIDE);
        due("the greatest as told", page("").letters(0x7E7E7E7E7E7E7E7EL), 8);
    }

    private static void lettersUpToEight() {
        about(2, "Letters come behind THE PAGE, up to eight, told by their codes in the bytes of w, the lowest byte first, "
            + "until a byte that is 0: how many THE PAGE has.");
        LetterSums x = new LetterSums();
        due("none", x.letters(0), 0);
        due("one", x.letters(word(1, 7, 0)), 1);
        due("eight more", x.letters(packed("VXLCDMiv")), 9);
        due("none more", x.letters(0), 9);
        due("seven more", x.letters(packed("xlcdmMM")), 16);
        due("a row of them", x.row(0), 16);
        same(x, 0, "IVXLCDMivxlcdmMM");
    }

    private static void lettersBehindThePage() {
        about(2, "FULL: above 80");
        for (int had = 72; had <= 80; had++) {
            for (int coming = 0; coming <= 8; coming++) {
                LetterSums x = page("A".repeat(had));
                long w = packed("BCDEFGHI".substring(0, coming));
                if (had + coming <= 80) {
                    due(had + " and " + coming, x.letters(w), had + coming);
                } else {
                    refused(had + " and " + coming, x, x.digest(), x.letters(w), FULL);
                }
            }
        }
        LetterSums full = page("A".repeat(80));
        refused("OUTSIDE ahead of FULL: 127", full, full.digest(), full.letters(127), OUTSIDE);
        refused("OUTSIDE ahead of FULL: behind a 0", full, full.digest(), full.letters('I' << 8), OUTSIDE);
    }

    private static void emptyAndFullBlank() {
        about(3, "THE PAGE is empty: how many letters it had.");
        LetterSums x = new LetterSums();
        long asNew = x.digest();
        due("empty", x.blank(), 0);
        x.letters('I');
        due("one", x.blank(), 1);
        page(x, "A".repeat(80));
        due("full", x.blank(), 80);
        due("empty again", x.blank(), 0);
        due("nothing else is changed", x.digest() == asNew ? 1 : 0, 1);
        due("room for letters again", x.letters(packed("IIIIIIII")), 8);
    }

    private static void good(String text, int want) {
        LetterSums x = page(text);
        long before = x.digest();
        due("good() of " + text, x.good(), want);
        due("good() of " + text + " leaves the page", x.digest() == before ? 1 : 0, 1);
    }

    private static void goodLetters() {
        about(4, "How many letters of THE PAGE begin some CUSTOM (of any length).");
        good("", 0);
        good("A", 0);
        good(",", 0);
        good("3", 0);
        good("<", 0);
        good("I", 1);
        good("m", 1);
        good(LONGEST, 80);
        good("X3,".repeat(26) + "X<", 80);
        good("X3,".repeat(26) + "X,", 79);
        good("X3,".repeat(26) + "XA", 79);
        good("X3,".repeat(26) + "A3", 78);
        good("I<V" + "V".repeat(77), 80);
        good("I3," + "A".repeat(77), 3);
        // the letters behind the first bad one do not count, good as they may be
        good("AI3", 0);
        good("I3,,I3", 3);
        good("I0,I3", 1);
        good("I<V<", 3);
        good("I<<V<", 4);
        good("I<V3", 3);
        good("I3I3", 2);
        good("I3<V", 2);
        good("I<<<V", 3);
        good("II", 1);
        good("I<,", 2);
        good("I<<,", 3);
        good("I<3", 2);
        good("I.", 1);
        good("I3*", 2);
    }

    private static void digitsOfCounts() {
        about(0, "a SIGN and a digit 1 to 9 (its COUNT)");
        for (int code = 1; code <= 126; code++) {
            LetterSums x = page("V");
            x.letters(code);
            int digit = code - '0';
            if (digit >= 1 && digit <= 9) {
                due("a count of " + digit, x.custom(), 0);
                due("count " + digit + " as told", x.asks(0, 1, 0), digit);
            } else {
                refused("V and code " + code, x, x.digest(), x.custom(), STATE);
            }
        }
        for (int code = 1; code <= 126; code++) {
            LetterSums x = new LetterSums();
            x.letters(code | '1' << 8);
            boolean isSign = SIGNS.indexOf(code) >= 0;
            due("code " + code + " and a count", x.custom(), isSign ? 0 : STATE);
        }
    }

    private static void taking(String text, int a, int b, boolean isOne, int what) {
        LetterSums x = page(text);
        int marks = beyondNone(a, 1) ? 0 : beyondNone(a, what) ? 1 : what;
        due("good() of " + text, x.good(), isOne ? text.length() : 1 + marks);
        if (isOne) {
            due(text, x.custom(), 0);
            due("bits of " + text, x.asks(0, a, what), 1 << b);
            due("other bits of " + text, x.asks(0, a, 3 - what), 0);
        } else {
            refused(text, x, x.digest(), x.custom(), STATE);
        }
    }

    /** No sign at all is worth so much more than a: that "<" is bad already. */
    private static boolean beyondNone(int a, int times) {
        return WORTH[13] <= times * WORTH[a];
    }

    private static void signsWorthMore() {
        about(0, "a SIGN, \"<\" and one or more SIGNS, each WORTH more than it (it MAY be taken ONCE from each of these)");
        for (int a = 0; a < 14; a++) {
            for (int b = 0; b < 14; b++) {
                taking(SIGNS.charAt(a) + "<" + SIGNS.charAt(b), a, b, WORTH[b] > WORTH[a], 1);
            }
        }
        due("none", page("I<").custom(), STATE);
        due("none, and a rule more", page("I<,I3").custom(), STATE);
        LetterSums x = page("I<VXLCDMivxlcdm");
        due("all of them", x.custom(), 0);
        due("as bits", x.asks(0, 0, 1), (1 << 14) - 2);
        due("each: the first is not", page("X<VLC").custom(), STATE);
        due("each: the last is not", page("X<LCX").custom(), STATE);
        due("M and i are worth as much", page("D<Mi").custom(), 0);
        due("each: i is not worth more than M", page("M<vi").custom(), STATE);
    }

    private static void signsWorthMoreThanTwice() {
        about(0, "a SIGN, \"<<\" and one or more SIGNS, each WORTH more than twice as much (TWICE)");
        for (int a = 0; a < 14; a++) {
            for (int b = 0; b < 14; b++) {
                taking(SIGNS.charAt(a) + "<<" + SIGNS.charAt(b), a, b, WORTH[b] > 2 * WORTH[a], 2);
            }
        }
        due("none", page("I<<").custom(), STATE);
        LetterSums x = page("I<<VXLCDMivxlcdm");
        due("all of them", x.custom(), 0);
        due("as bits", x.asks(0, 0, 2), (1 << 14) - 2);
        due("each: the last is just twice as much", page("V<<LX").custom(), STATE);
        due("once it is", page("V<LX").custom(), 0);
    }

    private static void rulesWithCommas() {
        about(0, "A CUSTOM is a text of RULES with \",\" between");
        due("one rule", page("I3").custom(), 0);
        due("two", page("I3,V1").custom(), 0);
        for (String text : new String[] {"", ",", ",I3", "I3,", "I3,,V1", "I3 ,V1", "I3V1", "I3,V", "I3;V1", "I<V,X", "I<,V"}) {
            LetterSums x = page(text);
            refused("'" + text + "'", x, x.digest(), x.custom(), STATE);
        }
        due("80 letters", page(LONGEST).custom(), 0);
        due("80 letters that are none", page("X3,".repeat(26) + "X<").custom(), STATE);
    }

    private static void countsAndTakingsTold() {
        about(0, "COUNTS not told are 0; of one SIGN the later COUNT holds; "
            + "what MAY be taken is gathered from all RULES (\"<<\" alone does not let it be taken ONCE).");
        LetterSums x = customs("X3", "X9,X1", "X1,V5,X9", "X<L,V<X,X<C,X<L", "X<<L,X<<C,X<C", "m9,I1");
        for (int sign = 0; sign < 14; sign++) {
            due("count of " + SIGNS.charAt(sign), x.asks(0, sign, 0), sign == 2 ? 3 : 0);
            due("of customs without counts", x.asks(3, sign, 0), 0);
        }
        due("the later one is less", x.asks(1, 2, 0), 1);
        due("the later one is more", x.asks(2, 2, 0), 9);
        due("one between is another's", x.asks(2, 1, 0), 5);
        due("once is gathered", x.asks(3, 2, 1), 1 << 3 | 1 << 4);
        due("for each sign alone", x.asks(3, 1, 1), 1 << 2);
        due("twice is gathered", x.asks(4, 2, 2), 1 << 3 | 1 << 4);
        due("once from C alone", x.asks(4, 2, 1), 1 << 4);
        due("the first and the last sign", x.asks(5, 0, 0) * 10 + x.asks(5, 13, 0), 19);
        row(x, 0, "XL");
        due("XL, with X<<LC,X<C", x.keeps(0, 4), 0);
        row(x, 0, "XXL");
        due("XXL, with X<<LC,X<C", x.keeps(0, 4), 1);
        row(x, 0, "XC");
        due("XC, with X<<LC,X<C", x.keeps(0, 4), 1);
    }

    private static void readingCustoms() {
        about(5, "THE PAGE is read as a CUSTOM: its number; THE PAGE is empty then. STATE: it is none; FULL: there are 6.");
        LetterSums x = new LetterSums();
        for (int k = 0; k < 6; k++) {
            page(x, "");
            refused("no letters, " + k + " customs", x, x.digest(), x.custom(), STATE);
            page(x, "I0");
            refused("none, " + k + " customs", x, x.digest(), x.custom(), STATE);
            due("the page stays", x.count(1), 2);
            due("custom " + k, custom(x, "I" + (k + 1)), k);
            due("the page is empty then", x.count(1), 0);
            due("how many there are", x.count(0), k + 1);
            due("it is read anew", x.asks(k, 0, 0), k + 1);
        }
        page(x, "I7");
        refused("a seventh", x, x.digest(), x.custom(), FULL);
        due("the page stays", x.count(1), 2);
        page(x, "I0");
        refused("STATE ahead of FULL", x, x.digest(), x.custom(), STATE);
        page(x, "");
        refused("STATE ahead of FULL, no letters", x, x.digest(), x.custom(), STATE);
    }

    private static void asking() {
        about(6, "what = 0 COUNT of a SIGN, 1 the SIGNS from which it MAY be taken ONCE, 2 TWICE (as bits). "
            + "UNKNOWN: k, sign; OUTSIDE.");
        LetterSums x = customs("I9,m1,I<V,I<<m", "d<m,c<<m");
        due("sign 0", x.asks(0, 0, 0), 9);
        due("sign 13", x.asks(0, 13, 0), 1);
        due("the lowest bit there can be", x.asks(0, 0, 1), 2);
        due("the highest one", x.asks(0, 0, 2), 1 << 13);
        due("d", x.asks(1, 12, 1), 1 << 13);
        due("c", x.asks(1, 11, 2), 1 << 13);
        due("from m nothing is taken", x.asks(1, 13, 1) + x.asks(1, 13, 2), 0);
        refused("k", x, (y, k) -> y.asks(k, 0, 0), UNKNOWN, LEAST, -1, 2, 6, GREATEST);
        refused("sign", x, (y, sign) -> y.asks(0, sign, 0), UNKNOWN, LEAST, -1, 14, GREATEST);
        refused("what", x, (y, what) -> y.asks(0, 0, what), OUTSIDE, LEAST, -1, 3, GREATEST);
        refused("k, ahead of OUTSIDE", x, (y, k) -> y.asks(k, 0, 3), UNKNOWN, -1, 2);
        refused("sign, ahead of OUTSIDE", x, (y, sign) -> y.asks(0, sign, -1), UNKNOWN, -1, 14);
    }

    private static void readingRows() {
        about(0, "A ROW is 1 to 24 SIGNS.");
        for (int length = 0; length <= 80; length++) {
            LetterSums x = page("X".repeat(length));
            if (length >= 1 && length <= 24) {
                due(length + " signs", x.row(0), length);
                same(x, 0, "X".repeat(length));
            } else {
                refused(length + " signs", x, x.digest(), x.row(0), STATE);
                same(x, 0, "I");
            }
        }
        about(7, "THE PAGE is read as a ROW, which r becomes: its length; THE PAGE is empty then. UNKNOWN: r; STATE: it is none.");
        for (int code = 1; code <= 126; code++) {
            LetterSums x = page("X");
            x.letters(code);
            int sign = SIGNS.indexOf(code);
            if (sign >= 0) {
                due("code " + code, x.row(0), 2);
                due("sign of code " + code, x.sign(0, 1), sign);
                due("the page is empty then", x.count(1), 0);
            } else {
                refused("code " + code, x, x.digest(), x.row(0), STATE);
                due("the page stays", x.count(1), 2);
            }
        }
        for (String text : new String[] {"A", "AX", "XAX", "XXA", "A" + "X".repeat(23), "X".repeat(23) + "A", "*X", "X.", "X,"}) {
            LetterSums bad = page(text);
            refused("'" + text + "'", bad, bad.digest(), bad.row(0), STATE);
        }
        LetterSums x = page("VX");
        refused("r", x, (y, r) -> y.row(r), UNKNOWN, LEAST, -1, 12, GREATEST);
        due("the first row", x.row(0), 2);
        due("the last row", row(x, 11, "XV"), 2);
        same(x, 0, "VX");
        same(x, 11, "XV");
        refused("UNKNOWN ahead of STATE", x, (y, r) -> y.row(r), UNKNOWN, -1, 12);
        refused("no letters", x, (y, r) -> y.row(r), STATE, 0, 11);
        row(x, 0, "X".repeat(24));
        due("one, where 24 were", row(x, 0, "m"), 1);
        same(x, 0, "m");
    }

    private static void signsOfRows() {
        about(8, "The i-th SIGN (from 0) of a ROW; NONE: there is none (i below 0, too). UNKNOWN: r.");
        LetterSums x = new LetterSums();
        row(x, 0, "VXL");
        row(x, 11, "V".repeat(23) + "m");
        due("first", x.sign(0, 0), 1);
        due("last", x.sign(0, 2), 3);
        due("the 24th", x.sign(11, 23), 13);
        for (int i : new int[] {LEAST, -2, -1, 3, 4, 23, 24, GREATEST}) {
            due("none at " + i, x.sign(0, i), NONE);
        }
        for (int i : new int[] {LEAST, -1, 24, 25, GREATEST}) {
            due("none of 24 at " + i, x.sign(11, i), NONE);
        }
        refused("r", x, (y, r) -> y.sign(r, 0), UNKNOWN, LEAST, -1, 12, GREATEST);
        refused("r, where there is none", x, (y, r) -> y.sign(r, -1), UNKNOWN, -1, 12);
        row(x, 11, "C");
        due("of the row ahead nothing is left", x.sign(11, 1), NONE);
    }
}
