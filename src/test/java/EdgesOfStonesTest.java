/** The boundary cases of stones, masons and accounts, and of what is told: promises 25 to 38, and their terms. */
public final class EdgesOfStonesTest extends Bench {
    public static void main(String[] args) {
        placesOfStones();
        gapsOfStones();
        brokenEnds();
        readingStones();
        worthsOfFillings();
        saying();
        sureSigns();
        thirtyTimes();
        noting();
        habits();
        hands();
        linesOfAccounts();
        tearing();
        wrongLines();
        mendedLines();
        slipsByPlace();
        slipsAtTheLengths();
        firstSlipOfSeveral();
        slipping();
        counting();
        digestOfParts();
        coversPromises(25, 38);
        report("EdgesOfStonesTest");
    }

    private static void stoneOf(String text, int want) {
        LetterSums x = new LetterSums();
        stone(x, "XV.*");
        page(x, text);
        if (want == STATE) {
            refused("'" + text + "'", x, x.digest(), x.stone(), STATE);
            due("the letters stay", x.count(1), text.length());
            due("the stone stays", x.count(2), 3);
        } else {
            due("'" + text + "'", x.stone(), want);
            due("the letters are gone", x.count(1), 0);
            due("its places", x.count(2), want);
        }
    }

    private static void placesOfStones() {
        about(0, "A STONE is a ROW of 1 to 20 SIGNS or gaps (one SIGN lost; 3 gaps at most), "
            + "perhaps broken at its end (then perhaps one SIGN more).");
        for (int places = 0; places <= 26; places++) {
            boolean isOne = places >= 1 && places <= 20;
            stoneOf("X".repeat(places), isOne ? places : STATE);
            stoneOf("X".repeat(places) + "*", isOne ? places : STATE);
        }
        stoneOf("X".repeat(80), STATE);
    }

    private static void gapsOfStones() {
        about(0, "3 gaps at most");
        for (int gaps = 0; gaps <= 5; gaps++) {
            stoneOf(".".repeat(gaps), gaps >= 1 && gaps <= 3 ? gaps : STATE);
            stoneOf(".".repeat(gaps) + "*", gaps >= 1 && gaps <= 3 ? gaps : STATE);
            stoneOf("X" + ".".repeat(gaps) + "X", gaps <= 3 ? gaps + 2 : STATE);
            stoneOf("X".repeat(20 - gaps) + ".".repeat(gaps), gaps <= 3 ? 20 : STATE);
        }
        stoneOf(".X.X.X*", 6);
        stoneOf(".X.X.X.", STATE);
        stoneOf("." + "X".repeat(19) + ".", STATE);
    }

    private static void brokenEnds() {
        about(25, "THE PAGE becomes THE STONE: letters of SIGNS, \".\" a gap, \"*\" behind all: broken: how many places; "
            + "THE PAGE is empty then. STATE: it is none.");
        for (String text : new String[] {"", "*", "**", "X**", "*X", "X*X", "*X*", "X*.", ".**"}) {
            stoneOf(text, STATE);
        }
        stoneOf("X*", 1);
        stoneOf(".*", 1);
        for (int code = 1; code <= 126; code++) {
            boolean inside = SIGNS.indexOf(code) >= 0 || code == '.';
            stoneOf("X" + (char) code + "X", inside ? 3 : STATE);
            stoneOf("X" + (char) code, inside ? 2 : code == '*' ? 1 : STATE);
            stoneOf((char) code + "X", inside ? 2 : STATE);
        }
        LetterSums x = page("X");
        long before = x.digest();
        due("a first stone", x.stone(), 1);
        due("something has changed", x.digest() == before ? 1 : 0, 0);
    }

    private static void says(LetterSums x, int k, int... worths) {
        due("how many", x.could(k), worths.length);
        for (int i = 0; i < worths.length; i++) {
            due("worth " + i, x.says(k, i), worths[i]);
        }
        due("behind the last", x.says(k, worths.length), NONE);
    }

    private static void readingStones() {
        about(0, "FILLINGS by a CUSTOM: WRITINGS as it may have been.");
        LetterSums x = customs("X3,V1", "X3", "X1", "I<X");
        stone(x, "X");
        says(x, 0, 10);
        stone(x, "X*");
        says(x, 0, 10, 15, 20);
        stone(x, "XX*");
        says(x, 2);
        stone(x, "XXX*");
        says(x, 1, 30);
        stone(x, "I*");
        says(x, 3, 9);
        stone(x, "I");
        says(x, 3);
        stone(x, ".");
        says(x, 0, 5, 10);
        LetterSums y = customs("X9,V9,I2", "X9,V9,I3", "X9,V9,I1,I<V", "X9,V9,I<<V");
        String most = "X".repeat(9) + "V".repeat(9);
        stone(y, most + "I.*");
        says(y, 0, 137);
        says(y, 1, 137, 138);
        says(y, 2, 139);
        says(y, 3, 138);
        stone(y, most + "II*");
        says(y, 3, 138);
        stone(y, most + "II");
        says(y, 3);
    }

    private static void worthsOfFillings() {
        about(26, "How many WORTHS THE STONE SAYS by a CUSTOM. UNKNOWN: k; STATE: there is no STONE");
        LetterSums x = new LetterSums();
        refused("no custom, no stone", x, (y, k) -> y.could(k), UNKNOWN, -1, 0);
        custom(x, "M1,i1");
        custom(x, "M1,i1,D1");
        refused("no stone", x, (y, k) -> y.could(k), STATE, 0, 1);
        refused("no stone, says", x, (y, k) -> y.says(k, 0), STATE, 0, 1);
        refused("no stone, sure", x, (y, k) -> y.sure(k, 0), STATE, 0, 1);
        refused("k, ahead of STATE", x, (y, k) -> y.could(k), UNKNOWN, LEAST, -1, 2, 6, GREATEST);
        page(x, "X*X");
        x.stone();
        refused("a refused stone is none", x, x.digest(), x.could(0), STATE);
        due("none of them was done", x.count(5), 0);
        stone(x, ".");
        due("like worths are one", x.could(0), 1);
        due("two", x.could(1), 2);
        stone(x, "DM");
        due("none", x.could(1), 0);
        refused("k", x, (y, k) -> y.could(k), UNKNOWN, LEAST, -1, 2, 6, GREATEST);
        due("done ones", x.count(5), 3);
        LetterSums all = customs("I9,V9,X9,L9,C9,D9,M9,i9,v9,x9,l9,c9,d9,m9");
        stone(all, ".*");
        // 13 worths of one sign; of two, each pair of unlike worths or twice one: 13 and 13 * 12 / 2, less those met
        // before (10, 100, 1000, 10000, 100000, 1000000 are twice 5, 50, 500, 5000, 50000, 500000)
        due("all signs, one more or none", all.could(0), 13 + 13 + 78 - 6);
    }

    private static void saying() {
        about(27, "The i-th of these (from 0), the least first; NONE: there is none (i below 0, too). UNKNOWN; STATE.");
        LetterSums x = customs("X3,V1,I1");
        stone(x, "X.");
        says(x, 0, 11, 15, 20);
        for (int i : new int[] {LEAST, -2, -1, 3, 4, GREATEST}) {
            due("none at " + i, x.says(0, i), NONE);
        }
        due("they were done", x.count(5), 11);
        custom(x, "X3,V1,I1,I<X");
        stone(x, "..");
        // VI, IX, XI, XV, XX: by signs IX would be ahead of VI
        says(x, 1, 6, 9, 11, 15, 20);
        stone(x, "X.");
        refused("k", x, (y, k) -> y.says(k, 0), UNKNOWN, LEAST, -1, 2, 6, GREATEST);
        refused("k, where there is none", x, (y, k) -> y.says(k, -1), UNKNOWN, -1, 2);
        stone(x, "VX");
        due("no fillings", x.says(0, 0), NONE);
        LetterSums y = customs("m9,d9");
        stone(y, "m".repeat(9) + "d".repeat(9));
        says(y, 0, 13500000);
    }

    private static void sureSigns() {
        about(0, "SURE of a place: that SIGN, if in all FILLINGS it is the same.");
        LetterSums x = customs("X3,V1", "X1,V1", "I<X", "X3");
        stone(x, "X.X");
        due("a gap with one sign that can be", x.sure(0, 1), 2);
        due("no fillings: even a sign that stands", x.sure(1, 0), NONE);
        stone(x, "X.");
        due("two signs can be", x.sure(0, 1), NONE);
        due("one can be", x.sure(1, 1), 1);
        due("a sign that stands", x.sure(0, 0), 2);
        stone(x, "X..*");
        due("by several fillings the same", x.sure(3, 2), 2);
        about(28, "The SIGN that is SURE at a place (0 to 19) of THE STONE; "
            + "NONE: there is none (none is sure, no FILLINGS, or no such place). UNKNOWN: k; OUTSIDE: place; STATE.");
        refused("place", x, (y, place) -> y.sure(0, place), OUTSIDE, LEAST, -1, 20, 21, GREATEST);
        due("the last place", x.sure(3, 2), 2);
        due("behind it, though broken", x.sure(3, 3), NONE);
        due("place 19", x.sure(3, 19), NONE);
        stone(x, "I*");
        due("what must have been behind the end is no place", x.sure(2, 1), NONE);
        refused("k", x, (y, k) -> y.sure(k, 0), UNKNOWN, LEAST, -1, 4, 6, GREATEST);
        refused("UNKNOWN ahead of OUTSIDE", x, (y, k) -> y.sure(k, 20), UNKNOWN, -1, 4);
        LetterSums y = customs("m9,d9,c2");
        refused("OUTSIDE ahead of STATE: no stone", y, (z, place) -> z.sure(0, place), OUTSIDE, -1, 20);
        refused("no stone", y, (z, place) -> z.sure(0, place), STATE, 0, 19);
        stone(y, "m".repeat(9) + "d".repeat(9) + "c.");
        due("place 19 of 20", y.sure(0, 19), 11);
        due("place 0", y.sure(0, 0), 13);
        stone(y, "m".repeat(9) + "d".repeat(9) + "c");
        due("place 19 of 19", y.sure(0, 19), NONE);
    }

    private static void thirtyTimes() {
        about(26, "or it was done 30 times ever (it counts on, whatever is read) with says(), sure()");
        LetterSums x = customs("X3,V1");
        stone(x, "X.");
        for (int i = 0; i < 29; i++) {
            if (i % 3 == 0) {
                due("could", x.could(0), 2);
            } else if (i % 3 == 1) {
                due("says", x.says(0, i - 2), i == 1 ? NONE : i <= 3 ? 15 + 5 * (i - 2) : NONE);
            } else {
                due("sure", x.sure(0, i % 20), i % 20 == 0 ? 2 : NONE);
            }
            due("how often", x.count(5), i + 1);
            x.could(-1);
            x.sure(0, 20);
        }
        custom(x, "X1");
        stone(x, "X");
        row(x, 0, "X");
        due("whatever is read", x.count(5), 29);
        due("the 30th", x.could(1), 1);
        due("count(5)", x.count(5), 30);
        refused("the 31st, could", x, (y, k) -> y.could(k), STATE, 0, 1);
        refused("the 31st, says", x, (y, i) -> y.says(0, i), STATE, -1, 0, 5);
        refused("the 31st, sure", x, (y, place) -> y.sure(0, place), STATE, 0, 1, 19);
        refused("UNKNOWN ahead of STATE, could", x, (y, k) -> y.could(k), UNKNOWN, -1, 2);
        refused("UNKNOWN ahead of STATE, says", x, (y, k) -> y.says(k, 0), UNKNOWN, -1, 2);
        refused("UNKNOWN ahead of STATE, sure", x, (y, k) -> y.sure(k, 20), UNKNOWN, -1, 2);
        refused("OUTSIDE ahead of STATE, sure", x, (y, place) -> y.sure(0, place), OUTSIDE, -1, 20);
        stone(x, "XX");
        refused("a stone read since", x, x.digest(), x.could(0), STATE);
        for (int last = 0; last < 3; last++) {
            LetterSums y = customs("X3");
            stone(y, "X");
            for (int i = 0; i < 29; i++) {
                y.could(0);
            }
            due("the 30th of each", last == 0 ? y.could(0) : last == 1 ? y.says(0, 0) : y.sure(0, 0), last == 0 ? 1 : last == 1 ? 10 : 2);
            refused("the 31st of each", y, y.digest(), last == 0 ? y.could(0) : last == 1 ? y.says(0, 0) : y.sure(0, 0), STATE);
        }
    }

    private static void noting() {
        about(29, "A ROW is noted as a MASON's: how many are. UNKNOWN: m, r; FULL: 30 are.");
        about(0, "MASONS 0 to 5: a ROW is noted as theirs.");
        about(29, "FULL: 30 are");
        LetterSums x = new LetterSums();
        for (int i = 1; i <= 30; i++) {
            due("of the first mason", x.note(0, 0), i);
        }
        refused("a 31st", x, (y, r) -> y.note(0, r), FULL, 0, 11);
        due("the last mason, the last row", x.note(5, 11), 1);
        for (int i = 2; i <= 30; i++) {
            due("of the last mason", x.note(5, 11), i);
        }
        refused("a 31st of the last", x, (y, r) -> y.note(5, r), FULL, 0, 11);
        due("another one", x.note(4, 0), 1);
        refused("m", x, (y, m) -> y.note(m, 0), UNKNOWN, LEAST, -1, 6, GREATEST);
        refused("r", x, (y, r) -> y.note(1, r), UNKNOWN, LEAST, -1, 12, GREATEST);
        refused("UNKNOWN ahead of FULL", x, (y, r) -> y.note(0, r), UNKNOWN, -1, 12);
    }

    private static void habits() {
        about(30, "HABIT, as bits of CUSTOMS (all that there are, without ROWS). UNKNOWN.");
        LetterSums x = new LetterSums();
        for (int k = 0; k < 6; k++) {
            for (int m = 0; m < 6; m += 5) {
                due("without rows, " + k + " customs", x.habit(m), (1 << k) - 1);
            }
            custom(x, "I" + (k + 1));
        }
        due("all six", x.habit(0), 63);
        row(x, 0, "IIII");
        x.note(0, 0);
        due("four I", x.habit(0), 8 | 16 | 32);
        row(x, 0, "II");
        x.note(0, 0);
        due("two I as well: all rows", x.habit(0), 8 | 16 | 32);
        row(x, 0, "IIIIII");
        x.note(0, 0);
        due("six", x.habit(0), 32);
        row(x, 0, "IIIIIII");
        x.note(0, 0);
        due("seven: by no custom", x.habit(0), 0);
        due("another mason's", x.habit(5), 63);
        refused("m", x, (y, m) -> y.habit(m), UNKNOWN, LEAST, -1, 6, GREATEST);
        LetterSums late = new LetterSums();
        row(late, 0, "II");
        late.note(2, 0);
        due("rows, but no customs", late.habit(2), 0);
        custom(late, "I1");
        due("a custom that does not fit", late.habit(2), 0);
        custom(late, "I2");
        due("one that fits, read later", late.habit(2), 2);
        row(late, 0, "I");
        due("a row is noted as it was", late.habit(2), 2);
    }

    private static void hands() {
        about(31, "MASONS whose a ROW MAY be, as bits. UNKNOWN.");
        LetterSums x = new LetterSums();
        due("no customs", x.hands(0), 0);
        custom(x, "I1");
        custom(x, "I2");
        due("without rows: all six", x.hands(0), 63);
        row(x, 1, "II");
        row(x, 2, "III");
        x.note(0, 1);
        x.note(5, 1);
        due("I, by the second custom", x.hands(0), 63);
        due("II", x.hands(1), 63);
        due("III, by none", x.hands(2), 0);
        x.note(5, 2);
        due("the last mason has no habit left", x.hands(0), 31);
        x.note(0, 2);
        due("nor the first one", x.hands(11), 30);
        refused("r", x, (y, r) -> y.hands(r), UNKNOWN, LEAST, -1, 12, GREATEST);
        custom(x, "I3");
        due("by a custom that is read later they have", x.hands(2), 63);
    }

    private static void linesOfAccounts() {
        about(0, "AN ACCOUNT has LINES (20 at most): an amount and a total, each a ROW.");
        about(32, "A LINE: amount ROW a, total ROW t, as they are now: how many. UNKNOWN; FULL.");
        LetterSums x = new LetterSums();
        for (int i = 1; i <= 20; i++) {
            row(x, 11, "I".repeat(i));
            due("line", x.line(0, 11), i);
        }
        due("20 are right", x.wrong(), NONE);
        refused("a 21st", x, (y, t) -> y.line(0, t), FULL, 0, 11);
        refused("UNKNOWN ahead of FULL: a", x, (y, a) -> y.line(a, 0), UNKNOWN, LEAST, -1, 12, GREATEST);
        refused("UNKNOWN ahead of FULL: t", x, (y, t) -> y.line(0, t), UNKNOWN, LEAST, -1, 12, GREATEST);
        due("tear", x.tear(), 20);
        refused("a", x, (y, a) -> y.line(a, 0), UNKNOWN, -1, 12);
        refused("t", x, (y, t) -> y.line(0, t), UNKNOWN, -1, 12);
        due("the last rows, the first ones", x.line(11, 0), 1);
        row(x, 0, "X");
        row(x, 11, "X");
        due("20 is not 1, as they were", x.wrong(), 0);
        due("the next", x.line(0, 0), 2);
    }

    private static void tearing() {
        about(33, "No LINES: how many there were.");
        LetterSums x = new LetterSums();
        long asNew = x.digest();
        due("none", x.tear(), 0);
        x.line(0, 0);
        due("one", x.tear(), 1);
        for (int i = 0; i < 20; i++) {
            x.line(0, 0);
        }
        due("wrong ahead of it", x.wrong(), 1);
        due("full", x.tear(), 20);
        due("nothing is left", x.digest() == asNew ? 1 : 0, 1);
        due("none is wrong", x.wrong(), NONE);
        due("none mended", x.mended(), NONE);
        due("no slip", x.slip(0), NONE);
        due("again", x.tear(), 0);
        due("a first line", x.line(0, 0), 1);
        due("it is right: 0 ahead of all", x.wrong(), NONE);
    }

    /** Lines of I with totals as told: of 20, those at some places have one more than they should. */
    private static LetterSums twenty(int... wrongOnes) {
        LetterSums x = new LetterSums();
        for (int i = 0; i < 20; i++) {
            int total = i + 1;
            for (int w : wrongOnes) {
                total += w == i ? 1 : 0;
            }
            addLine(x, "I", "I".repeat(total));
        }
        return x;
    }

    private static void wrongLines() {
        about(0, "Its first WRONG LINE: the total is not the amount and the total of the LINE ahead (0 ahead of all).");
        about(34, "The first WRONG LINE; NONE.");
        due("no lines", new LetterSums().wrong(), NONE);
        due("none of one", account("X", "X").wrong(), NONE);
        due("one of one", account("X", "XI").wrong(), 0);
        due("one less", account("XI", "X").wrong(), 0);
        due("none of 20", twenty().wrong(), NONE);
        due("the first", twenty(0).wrong(), 0);
        due("the last", twenty(19).wrong(), 19);
        due("of several the first", twenty(3, 7).wrong(), 3);
        due("a wrong total ahead counts as it stands", account("X", "X", "X", "XV", "X", "XXV").wrong(), 1);
        due("of worth 0", account("VVX", "Mi").wrong(), NONE);
        due("below 0", account("VVVX", "VVVX", "VVVX", "VVVVX").wrong(), NONE);
        due("of the greatest", account("m".repeat(24), "m".repeat(24)).wrong(), NONE);
        due("the greatest are one too few", account("m".repeat(24), "m".repeat(24), "I", "m".repeat(24)).wrong(), 1);
    }

    private static void mendedLines() {
        about(0, "It is MENDED at the first LINE behind the first WRONG one, whose total is the sum of all amounts so far.");
        about(35, "The LINE at which it is MENDED; NONE.");
        due("no lines", new LetterSums().mended(), NONE);
        due("none is wrong", twenty().mended(), NONE);
        due("at the next", twenty(0).mended(), 1);
        due("at the last", twenty(18).mended(), 19);
        due("behind the last there is none", twenty(19).mended(), NONE);
        due("not at a wrong one between", twenty(3, 4, 5).mended(), 6);
        due("not ahead of it", twenty(17, 18, 19).mended(), NONE);
        due("one that is off alike is not mended", account("X", "V", "X", "XV").mended(), NONE);
        due("below 0", account("VVVX", "V", "V", "VVX").mended(), 1);
        due("one alone", account("X", "V").mended(), NONE);
    }

    private static void slip(String what, LetterSums x, int part, int sort, int place, int sign) {
        due(what + ": part", x.slip(0), part);
        due(what + ": sort", x.slip(1), sort);
        due(what + ": place", x.slip(2), place);
        due(what + ": sign", x.slip(3), sign);
    }

    private static void noSlip(String what, LetterSums x) {
        slip(what, x, NONE, NONE, NONE, NONE);
    }

    private static void slipsByPlace() {
        about(0, "A SLIP explains the first WRONG LINE: one SIGN left out (sort 0), one too much (1), one in place of another one (2), "
            + "of its amount (part 0) or its total (1): with it put right it would not be WRONG");
        noSlip("no lines", new LetterSums());
        noSlip("none is wrong", twenty());
        slip("left out of the amount, at its front", account("X", "XX"), 0, 0, 0, 2);
        slip("left out of the amount, at its end", account("X", "XI"), 0, 0, 1, 0);
        slip("one too much in the amount, at its front", account("LXI", "XI"), 0, 1, 0, NONE);
        slip("one too much in the amount, at its end", account("Im", "I"), 0, 1, 1, NONE);
        slip("one in place of another in the amount", account("X", "D"), 0, 2, 0, 5);
        slip("one in place of another in the amount, at its front", account("XX", "VX"), 0, 2, 0, 1);
        slip("left out of the total, at its front", account("X", "VVX"), 1, 0, 0, 2);
        slip("left out of the total, in its midst", account("LXL", "X"), 1, 0, 1, 4);
        slip("one too much in the total, at its end", account("L", "ILIX"), 1, 1, 3, NONE);
        slip("one in place of another in the total", account("VIXVL", "LII"), 1, 2, 2, 2);
        noSlip("two strokes", account("MMM", "I"));
        slip("the first wrong line alone", account("X", "XI", "X", "X"), 0, 0, 1, 0);
        slip("by the total ahead", account("X", "X", "X", "XXI"), 0, 0, 1, 0);
    }

    private static void slipsAtTheLengths() {
        about(0, "(Left out: a SIGN is put in ahead of that place, 0 to the length; at most 24 then. A ROW stays of one SIGN at least.)");
        slip("23 signs and one", account("I".repeat(23), "XXIV"), 0, 0, 0, 0);
        slip("24 signs take none more", account("I".repeat(24), "XXV"), 0, 2, 4, 2);
        slip("at the length: ahead of place 23", account("X".repeat(23), "CCXXXI"), 0, 0, 23, 0);
        slip("24 signs less one", account("m".repeat(24), "m".repeat(23)), 0, 1, 0, NONE);
        slip("two signs less one", account("XX", "X"), 0, 1, 0, NONE);
        slip("one sign stays", account("X", "VVX"), 1, 0, 0, 2);
        slip("the last of 24 in place of another one", account("X".repeat(24), "X".repeat(23) + "I"), 0, 2, 23, 0);
        LetterSums x = account("m".repeat(24), "m".repeat(24), "Mi", "m".repeat(23) + "d");
        slip("total of 24: d in place of m", x, 1, 2, 23, 13);
        x = account("m".repeat(24), "m".repeat(24), "VVX", "m".repeat(23));
        slip("total of 23: one is left out", x, 1, 0, 0, 13);
        noSlip("24 signs, and none explains it", account("m".repeat(24), "I"));
        noSlip("a total of 24, too", account("MMM", "m".repeat(24)));
        slip("a total of one sign stays", account("VVX", "X"), 0, 0, 0, 2);
    }

    private static void firstSlipOfSeveral() {
        about(0, "of several the first by part, then sort, then place, then SIGN");
        slip("part: I left out of the amount, or too much in the total", account("X", "XI"), 0, 0, 1, 0);
        slip("sort: one left out, or in place of another one", account("V", "VV"), 0, 0, 0, 1);
        slip("sort: one too much, or in place of another one", account("XI", "I"), 0, 1, 0, NONE);
        slip("place: the first m of three", account("mmm", "mm"), 0, 1, 0, NONE);
        slip("place ahead of sign: X at 0, not I at 1", account("XX", "XXX"), 0, 0, 0, 2);
        // M and i are worth as much: the lesser number comes first
        slip("sign: M, not i", account("X", "MX"), 0, 0, 0, 6);
        slip("sign: M, not i, in place", account("D", "i"), 0, 0, 0, 5);
        slip("sign: M in place of X, not i", account("X", "M"), 0, 2, 0, 6);
    }

    private static void slipping() {
        about(36, "what = 0 part, 1 sort, 2 place, 3 the SIGN that should be there (NONE for one too much); NONE: there is none. OUTSIDE.");
        LetterSums x = account("X", "XX");
        refused("what", x, (y, what) -> y.slip(what), OUTSIDE, LEAST, -1, 4, GREATEST);
        due("the least what", x.slip(0), 0);
        due("the greatest what", x.slip(3), 2);
        LetterSums none = new LetterSums();
        refused("OUTSIDE where there is none", none, (y, what) -> y.slip(what), OUTSIDE, -1, 4);
        x.tear();
        due("torn", x.slip(3), NONE);
        addLine(x, "XX", "X");
        due("anew", x.slip(1), 1);
        due("none should be there", x.slip(3), NONE);
        addLine(x, "XX", "X");
        due("lines behind change nothing", x.slip(1), 1);
    }

    private static void counting() {
        about(37, "How many: 0 CUSTOMS, 1 letters of THE PAGE, 2 places of THE STONE, 3 LINES, 4 how often ways() and write(), "
            + "5 could(), says(), sure() were done, 6 STEPS of the latest SETTLING. OUTSIDE.");
        LetterSums x = customs("I1", "I2", "I3", "I4", "I5", "I6");
        due("six customs", x.count(0), 6);
        stone(x, "I".repeat(20) + "*");
        due("20 places", x.count(2), 20);
        page(x, "A".repeat(80));
        due("80 letters", x.count(1), 80);
        for (int i = 0; i < 21; i++) {
            x.line(0, 0);
        }
        due("20 lines", x.count(3), 20);
        for (int i = 0; i < 41; i++) {
            x.ways(0, 1);
        }
        due("40 times, a refused one is not done", x.count(4), 40);
        for (int i = 0; i < 31; i++) {
            x.could(0);
        }
        due("30 times, a refused one is not done", x.count(5), 30);
        refused("what", x, (y, what) -> y.count(what), OUTSIDE, LEAST, -1, 7, GREATEST);
    }

    private static long mixed(long h, long... numbers) {
        for (long number : numbers) {
            h = 31 * h + number;
        }
        return h;
    }

    private static long rowsOfOne(long h, int number) {
        for (int r = 0; r < number; r++) {
            h = mixed(h, 1, 0);
        }
        return h;
    }

    private static void digestOfParts() {
        about(38, "h is 223, then for each of these numbers, in order, 31 times h, and it (as longs, wrapping)");
        long empty = mixed(rowsOfOne(223, 12), new long[14 + 1 + 12 + 3]);
        due("nothing is there", new LetterSums().digest(), empty);
        LetterSums x = page("~".repeat(80));
        long h = 223;
        for (int i = 0; i < 80; i++) {
            h = mixed(h, 126);
        }
        due("a full page", x.digest(), mixed(rowsOfOne(h, 12), new long[30]));
        about(38, "of THE STONE its SIGNS (14 for a gap), 1 if it is broken, else 0");
        x = new LetterSums();
        stone(x, "I.m");
        due("a gap", x.digest(), mixed(mixed(rowsOfOne(223, 12), new long[14]), 0, 14, 13, 0, 0, 0, 0, 0, 0, 0, 0, 0, 0, 0, 0, 0, 0, 0, 0));
        stone(x, "I*");
        due("broken", x.digest(), mixed(mixed(rowsOfOne(223, 12), new long[14]), 0, 1, 0, 0, 0, 0, 0, 0, 0, 0, 0, 0, 0, 0, 0, 0, 0));
        about(38, "of each LINE THE WORTH of amount, total");
        x = new LetterSums();
        row(x, 0, "VVVX");
        x.line(0, 1);
        row(x, 0, "I");
        due("below 0", x.digest(), mixed(mixed(rowsOfOne(223, 12), new long[14 + 1 + 12]), -5, 1, 0, 0, 0));
        about(38, "of each MASON how many ROWS are noted, HABIT");
        x = new LetterSums();
        for (int i = 0; i < 30; i++) {
            x.note(5, 0);
        }
        due("30 noted", x.digest(), mixed(mixed(rowsOfOne(223, 12), new long[14 + 1 + 10]), 30, 0, 0, 0, 0));
        about(38, "what count() tells for 4 to 6");
        x = customs("I1");
        h = mixed(223, 1, 0, 0);
        h = mixed(h, new long[13 * 3]);
        h = mixed(rowsOfOne(h, 12), new long[14]);
        for (int i = 0; i < 40; i++) {
            x.ways(0, 1);
        }
        due("40 done", x.digest(), mixed(h, 0, 0, 1, 0, 1, 0, 1, 0, 1, 0, 1, 0, 1, 40, 0, 0));
        about(38, "of each ROW its length, SIGNS");
        x = new LetterSums();
        row(x, 11, "m".repeat(24));
        h = mixed(rowsOfOne(223, 11), 24);
        for (int i = 0; i < 24; i++) {
            h = mixed(h, 13);
        }
        due("24 signs", x.digest(), mixed(h, new long[30]));
        about(38, "of each SIGN 0 to 6 GIVEN, OWED");
        x = new LetterSums();
        pourSome(x, 0, 99, true);
        pourSome(x, 6, 98, false);
        row(x, 11, "I");
        due("99 and 98", x.digest(), mixed(mixed(rowsOfOne(223, 12), 99, 0, 0, 0, 0, 0, 0, 0, 0, 0, 0, 0, 0, 98), new long[16]));
    }
}
