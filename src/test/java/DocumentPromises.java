import java.util.ArrayList;
import java.util.HashMap;
import java.util.List;
import java.util.Map;

/** The second half of DocumentTest: each sentence of the promises, and what is not promised. */
final class DocumentPromises extends Bench {
    private DocumentPromises() {
    }

    static void test() {
        pageOfLetters();
        pageOfCustoms();
        rows();
        rowsByCustoms();
        ways();
        write();
        board();
        bundles();
        settled();
        tables();
        stones();
        stonesRead();
        masons();
        accounts();
        told();
        digest();
        notPromised();
    }

    private static void next(int number, String quote) {
        DocumentTest.next(number, quote);
    }

    // ---- the page

    private static void pageOfLetters() {
        next(1, "Nothing is there.");
        LetterSums x = new LetterSums();
        for (int what = 0; what <= 6; what++) {
            due("count(" + what + ")", x.count(what), 0);
        }
        next(2, "Letters come behind THE PAGE, up to eight, told by their codes in the bytes of w, the lowest byte first, "
            + "until a byte that is 0: how many THE PAGE has.");
        due("I3", x.letters('I' | '3' << 8), 2);
        due("none", x.letters(0), 2);
        due("eight more", x.letters(packed(",I<VX,X<")), 10);
        due("two more", x.letters(packed("LC")), 12);
        due("all in their order", x.custom(), 0);
        due("the first", x.asks(0, 0, 0), 3);
        due("the last", x.asks(0, 2, 1), 1 << 3 | 1 << 4);
        next(2, "OUTSIDE: a byte above 126, or one behind a 0 that is not 0; FULL: above 80.");
        for (int place = 0; place < 8; place++) {
            long ahead = packed("IIIIIIII".substring(0, place));
            due("126 at " + place, new LetterSums().letters(ahead | 126L << 8 * place), place + 1);
            for (long code : new long[] {127, 128, 200, 255}) {
                due(code + " at " + place, new LetterSums().letters(ahead | code << 8 * place), OUTSIDE);
            }
            due("behind a 0", new LetterSums().letters(1L << 8 * place), place == 0 ? 1 : OUTSIDE);
        }
        for (int i = 1; i <= 11; i++) {
            due("at most 80", x.letters(packed("XXXXXXXX")), i > 10 ? FULL : 8 * i);
        }
        next(3, "THE PAGE is empty: how many letters it had.");
        due("80", x.blank(), 80);
        due("0", x.blank(), 0);
        due("count(1)", x.count(1), 0);
    }

    private static void pageOfCustoms() {
        next(4, "How many letters of THE PAGE begin some CUSTOM (of any length).");
        String[] texts = {"", "I", "I1", "I1,", "I1,V", "I<", "I<V", "I<<", "I<<V", "I<VX,", "d<", "c<<", "i<<v"};
        for (String text : texts) {
            due("all of " + text, page(text).good(), text.length());
            due("a wrong one behind " + text, page(text + ".").good(), text.length());
        }
        due("no sign is worth more than m", page("m<").good(), 1);
        due("nor more than twice d", page("d<<").good(), 2);
        due("80 that need one more", page("I1,".repeat(26) + "I<").good(), 80);
        next(5, "THE PAGE is read as a CUSTOM: its number; THE PAGE is empty then.");
        LetterSums x = new LetterSums();
        for (int k = 0; k < 6; k++) {
            due("its number", custom(x, "I" + (k + 1)), k);
            due("the page", x.count(1), 0);
        }
        next(5, "STATE: it is none; FULL: there are 6.");
        due("a seventh", custom(x, "I7"), FULL);
        due("the page stays", x.count(1), 2);
        due("none", custom(x, "I"), STATE);
        next(6, "Of a CUSTOM: what = 0 COUNT of a SIGN, 1 the SIGNS from which it MAY be taken ONCE, 2 TWICE (as bits).");
        for (int k = 0; k < 6; k++) {
            due("count", x.asks(k, 0, 0), k + 1);
        }
        LetterSums y = customs("c7,c<dm,c<<m,I<m");
        due("COUNT", y.asks(0, 11, 0), 7);
        due("ONCE", y.asks(0, 11, 1), 1 << 12 | 1 << 13);
        due("TWICE", y.asks(0, 11, 2), 1 << 13);
        due("of I", y.asks(0, 0, 1), 1 << 13);
        next(6, "UNKNOWN: k, sign; OUTSIDE.");
        refused("k", y, n -> y.asks(n, 0, 0), UNKNOWN, LEAST, -1, 1, 6, GREATEST);
        refused("sign", y, n -> y.asks(0, n, 0), UNKNOWN, LEAST, -1, 14, GREATEST);
        refused("what", y, n -> y.asks(0, 0, n), OUTSIDE, LEAST, -1, 3, GREATEST);
    }

    /** A call on an object that is known already. */
    private interface Ask {
        long of(int number);
    }

    private static void refused(String what, LetterSums x, Ask ask, int want, int... numbers) {
        refused(what, x, (same, number) -> ask.of(number), want, numbers);
    }

    // ---- rows

    private static void rows() {
        next(7, "THE PAGE is read as a ROW, which r becomes: its length; THE PAGE is empty then.");
        LetterSums x = new LetterSums();
        for (int r = 0; r < 12; r++) {
            due("row(" + r + ")", row(x, r, SIGNS.substring(r)), 14 - r);
            due("the page", x.count(1), 0);
        }
        next(7, "UNKNOWN: r; STATE: it is none.");
        page(x, "XI");
        refused("r", x, n -> x.row(n), UNKNOWN, LEAST, -1, 12, GREATEST);
        for (String text : new String[] {"", "XI.", "xI1", "O", "X X"}) {
            page(x, text);
            refused("row of " + text, x, n -> x.row(n), STATE, 0, 11);
        }
        next(8, "The i-th SIGN (from 0) of a ROW; NONE: there is none (i below 0, too).");
        for (int r = 0; r < 12; r++) {
            same(x, r, SIGNS.substring(r));
        }
        for (int i : new int[] {LEAST, -1, 14, 23, 24, GREATEST}) {
            due("sign(0, " + i + ")", x.sign(0, i), NONE);
        }
        next(8, "UNKNOWN: r.");
        refused("r", x, n -> x.sign(n, 0), UNKNOWN, LEAST, -1, 12, GREATEST);
        next(9, "THE WORTH; -100000001: UNKNOWN.");
        due("MCMXCIX", worthOf("MCMXCIX"), 1999);
        due("IIIIX", worthOf("IIIIX"), 6);
        due("23 d taken from m", worthOf("d".repeat(23) + "m"), -10500000);
        refused("r", x, n -> x.worth(n), -100000001, LEAST, -1, 12, GREATEST);
    }

    private static void rowsByCustoms() {
        next(10, "Whether a ROW is a WRITING: 1, 0.");
        DocumentTest.keepsAll(OLD, 1, "VIIII", "IIX", "XXXX", "XIIX", "MDCCCCLXXXXVIIII");
        DocumentTest.keepsAll(OLD, 0, "IX", "IV", "IIXI", "VV", "IIIX", "XL", "i");
        next(10, "UNKNOWN: r, k.");
        LetterSums x = customs(OLD, USUAL);
        refused("r", x, n -> x.keeps(n, 0), UNKNOWN, LEAST, -1, 12, GREATEST);
        refused("k", x, n -> x.keeps(0, n), UNKNOWN, LEAST, -1, 2, 6, GREATEST);
        next(11, "How many SIGNS from the front are the beginning of some WRITING (of any length).");
        due("IIXI", begins(OLD, "IIXI"), 3);
        due("IIIX", begins(OLD, "IIIX"), 3);
        due("IX", begins(OLD, "IX"), 1);
        due("none", begins(OLD, "i"), 0);
        due("25 signs it would be", begins("M9,D9,C5,I<X", "M".repeat(9) + "D".repeat(9) + "C".repeat(5) + "I"), 24);
        next(11, "UNKNOWN: r, k.");
        refused("r", x, n -> x.begins(n, 0), UNKNOWN, LEAST, -1, 12, GREATEST);
        refused("k", x, n -> x.begins(0, n), UNKNOWN, LEAST, -1, 2, 6, GREATEST);
    }

    /** With up to nine plain ones of each sign up to one, in a room: how many rows are worth a number. */
    private static long plainRows(int sign, int left, int room, Map<Long, Long> known) {
        if (left == 0) {
            return 1;
        }
        if (sign < 0 || left > (long) room * WORTH[sign]) {
            return 0;
        }
        long key = ((long) left * 32 + room) * 16 + sign;
        if (!known.containsKey(key)) {
            long sum = 0;
            for (int plain = 0; plain <= Math.min(9, room) && plain * WORTH[sign] <= left; plain++) {
                sum += plainRows(sign - 1, left - plain * WORTH[sign], room - plain, known);
            }
            known.put(key, sum);
        }
        return known.get(key);
    }

    private static void ways() {
        next(12, "How many WRITINGS of n (1 to 9999999) there are of 24 SIGNS at most; 5000: so many or more.");
        LetterSums x = customs("I9,V9,X9,L9,C9,D9,M9,i9,v9,x9,l9,c9,d9,m9");
        Map<Long, Long> known = new HashMap<>();
        for (int n : new int[] {1, 4, 5, 10, 99, 100, 999, 1000, 4321, 12000, 110000, 120000, 1200000, 3210000, 9999999}) {
            due("ways of " + n, x.ways(0, n), Math.min(5000, plainRows(13, n, 24, known)));
        }
        due("of one of them there are more than 5000", plainRows(13, 3210000, 24, known), 5267);
        due("9 X, 9 V, 6 I", customs("I9,V9,X9").ways(0, 141), 1);
        due("25 signs it would be", customs("I9,V9,X9").ways(0, 142), 0);
        due("of the least", customs("I9").ways(0, 1), 1);
        due("of the greatest: nine of c, l, x, v and so on are too many signs", customs("m9,c9,l9,x9").ways(0, 9999999), 0);
        due("or as takings", customs("m9,c9,I<m").ways(0, 9999999), 1);
        next(12, "UNKNOWN: k; OUTSIDE: n; STATE: it was done 40 times ever (it counts on, whatever is read) with write().");
        LetterSums y = customs("I3", "V1");
        refused("k", y, n -> y.ways(n, 1), UNKNOWN, LEAST, -1, 2, GREATEST);
        refused("n", y, n -> y.ways(0, n), OUTSIDE, LEAST, -1, 0, 10000000, GREATEST);
        for (int i = 0; i < 20; i++) {
            due("ways", y.ways(0, 3), 1);
            due("write", y.write(0, 1, 5, NONE), 1);
        }
        custom(y, "I4");
        refused("the 41st", y, n -> y.ways(n, 3), STATE, 0, 1, 2);
    }

    private static void write() {
        next(13, "ROW r becomes the i-th (from 0, to 4999) WRITING of n of 24 SIGNS at most by ORDER, or (i is NONE) the shortest of these first "
            + "5000, of like ones the first: its length; 0: there is none (it stays).");
        LetterSums x = customs("I9,V2,X1,I<VX,V<X", "i1,M1");
        String[] of9 = {"VIIII", "VIV", "IIIIIIIII", "VXIIII", "IX"};
        for (int i = 0; i < of9.length; i++) {
            due("9, " + i, x.write(i, 0, 9, i), of9[i].length());
            same(x, i, of9[i]);
        }
        due("9, none", x.write(4, 0, 9, 5), 0);
        due("9, beyond 4999", x.write(4, 0, 9, 5000), 0);
        same(x, 4, "IX");
        due("9, the shortest", x.write(11, 0, 9, NONE), 2);
        same(x, 11, "IX");
        due("of like ones the first", x.write(11, 1, 1000, NONE), 1);
        same(x, 11, "i");
        due("the second", x.write(11, 1, 1000, 1), 1);
        same(x, 11, "M");
        due("none at all", x.write(11, 1, 999, NONE), 0);
        same(x, 11, "M");
        next(13, "UNKNOWN: r, k; OUTSIDE: n, i below NONE; STATE.");
        refused("r", x, n -> x.write(n, 0, 1, 0), UNKNOWN, LEAST, -1, 12, GREATEST);
        refused("k", x, n -> x.write(0, n, 1, 0), UNKNOWN, LEAST, -1, 2, GREATEST);
        refused("n", x, n -> x.write(0, 0, n, 0), OUTSIDE, LEAST, -1, 0, 10000000, GREATEST);
        refused("i", x, n -> x.write(0, 0, 1, n), OUTSIDE, LEAST, -2);
        for (int i = x.count(4); i < 40; i++) {
            due("write", x.write(0, 0, 1, 0), 1);
        }
        refused("the 41st", x, n -> x.write(0, 0, 1, n), STATE, NONE, 0, 5000);
    }

    // ---- the board

    private static void board() {
        next(14, "What is GIVEN (side 0), OWED (1) of a SIGN.");
        LetterSums x = new LetterSums();
        row(x, 0, "MCMXCIV");
        due("seven", x.pour(0, true), 7);
        int[][] want = {{0, 1}, {1, 0}, {0, 1}, {0, 0}, {1, 1}, {0, 0}, {2, 0}};
        for (int sign = 0; sign < 7; sign++) {
            due("given " + sign, x.board(sign, 0), want[sign][0]);
            due("owed " + sign, x.board(sign, 1), want[sign][1]);
        }
        next(14, "UNKNOWN: sign 0 to 6; OUTSIDE.");
        refused("sign", x, n -> x.board(n, 0), UNKNOWN, LEAST, -1, 7, 13, GREATEST);
        refused("side", x, n -> x.board(0, n), OUTSIDE, LEAST, -1, 2, GREATEST);
        next(15, "A ROW is POURED in, or out (is false): GIVEN and OWED SIGNS together.");
        due("out", x.pour(0, false), 14);
        due("they are alike", x.holds(), 0);
        next(15, "UNKNOWN: r; OUTSIDE: a SIGN of it is above 6; FULL: something would be above 99.");
        refused("r", x, n -> x.pour(n, true), UNKNOWN, LEAST, -1, 12, GREATEST);
        for (int sign = 7; sign < 14; sign++) {
            row(x, 1, "XI" + SIGNS.charAt(sign));
            refused("above 6", x, n -> x.pour(1, n == 0), OUTSIDE, 0, 1);
        }
        pourSome(x, 3, 98, true);
        row(x, 2, "LIL");
        refused("100 L", x, n -> x.pour(2, true), FULL, 0);
        due("but owed", x.pour(2, false), 115);
    }

    private static void bundles() {
        next(16, "BUNDLING: how many are GIVEN of the next SIGN.");
        LetterSums x = new LetterSums();
        pourSome(x, 0, 12, true);
        due("first", x.bundle(0), 1);
        due("second", x.bundle(0), 2);
        due("two are left", x.board(0, 0), 2);
        due("two V", x.bundle(1), 1);
        next(16, "UNKNOWN: sign 0 to 5; STATE: there are too few; FULL.");
        refused("sign", x, n -> x.bundle(n), UNKNOWN, LEAST, -1, 6, 7, GREATEST);
        refused("too few", x, n -> x.bundle(n), STATE, 0, 1, 2, 3, 4, 5);
        pourSome(x, 4, 5, true);
        pourSome(x, 5, 99, true);
        refused("99 D", x, n -> x.bundle(n), FULL, 4);
        next(17, "UNBUNDLING: how many are GIVEN of the SIGN below.");
        LetterSums y = new LetterSums();
        pourSome(y, 2, 1, true);
        pourSome(y, 1, 3, true);
        due("X: 3 and 2", y.unbundle(2), 5);
        due("V: five", y.unbundle(1), 5);
        due("four V are left", y.board(1, 0), 4);
        next(17, "UNKNOWN: sign 1 to 6; STATE: there is none; FULL.");
        refused("sign", y, n -> y.unbundle(n), UNKNOWN, LEAST, -1, 0, 7, GREATEST);
        refused("none", y, n -> y.unbundle(n), STATE, 2, 3, 4, 5, 6);
        pourSome(y, 0, 90, true);
        refused("95 I and five", y, n -> y.unbundle(n), FULL, 1);
    }

    private static void settled() {
        next(18, "SETTLING: how many STEPS.");
        LetterSums x = new LetterSums();
        pourSome(x, 6, 1, true);
        pourSome(x, 4, 1, false);
        due("M, D, and C goes", x.settle(), 3);
        next(19, "The i-th STEP of the latest SETTLING: 10 times its sort, and its SIGN (i from 0); NONE: there is none (i below 0, too).");
        int[] steps = {16, 15, 4};
        for (int i = 0; i < 3; i++) {
            due("step " + i, x.step(i), steps[i]);
        }
        for (int i : new int[] {LEAST, -1, 3, 299, 300, GREATEST}) {
            due("step " + i, x.step(i), NONE);
        }
        due("nothing more", x.settle(), 0);
        due("the latest had none", x.step(0), NONE);
        next(20, "THE WORTH of THE BOARD: that of GIVEN ones less OWED ones.");
        due("900", x.holds(), 900);
        pourSome(x, 6, 99, false);
        due("less 99 M", x.holds(), -98100);
        due("it is swept", x.sweep(), 104);
        next(21, "ROW r becomes what is GIVEN, the greatest SIGNS first (THE BOARD stays): its length.");
        for (int sign = 0; sign < 7; sign++) {
            pourSome(x, sign, sign == 6 ? 12 : 2, true);
        }
        due("lift", x.lift(5), 24);
        same(x, 5, "MMMMMMMMMMMMDDCCLLXXVVII");
        due("the board stays", x.board(6, 0), 12);
        next(21, "UNKNOWN; STATE: something is OWED, nothing is GIVEN, or more than 24 are.");
        refused("r", x, n -> x.lift(n), UNKNOWN, LEAST, -1, 12, GREATEST);
        pourSome(x, 0, 1, true);
        refused("25", x, n -> x.lift(n), STATE, 0);
        x.sweep();
        refused("nothing", x, n -> x.lift(n), STATE, 0);
        pourSome(x, 1, 1, true);
        pourSome(x, 0, 1, false);
        refused("owed", x, n -> x.lift(n), STATE, 0);
        next(22, "THE BOARD is empty: GIVEN and OWED SIGNS that there were.");
        due("two", x.sweep(), 2);
        due("empty", x.sweep(), 0);
        due("worth nothing", x.holds(), 0);
    }

    // ---- times, parts

    private static void tables() {
        next(23, "TIMES: what = 0 the product, 1 how many lines, 10 and i a, 30 and i b of the i-th line (i from 0, to 19; NONE: there is none).");
        LetterSums x = new LetterSums();
        due("product", x.times(9999, 8, 0), 79992);
        due("lines", x.times(9999, 8, 1), 14);
        due("last a", x.times(9999, 8, 23), 1);
        due("no 15th", x.times(9999, 8, 24), NONE);
        due("a of line 19", x.times(9999, 8, 29), NONE);
        due("first b", x.times(9999, 8, 30), 8);
        due("last b", x.times(9999, 8, 43), 65536);
        due("no 15th", x.times(9999, 8, 44), NONE);
        due("b of line 19", x.times(9999, 8, 49), NONE);
        next(23, "OUTSIDE.");
        refused("a", x, n -> x.times(n, 1, 0), OUTSIDE, LEAST, -1, 0, 10000, GREATEST);
        refused("b", x, n -> x.times(1, n, 0), OUTSIDE, LEAST, -1, 0, 10000, GREATEST);
        refused("what", x, n -> x.times(1, 1, n), OUTSIDE, LEAST, -1, 2, 9, 50, GREATEST);
        next(24, "PARTS: what = 0 the sum, 1 what is left, 2 how many lines, 3 the lines taken, as bits (the first lowest).");
        int[] want = {11, 4, 4, 1 | 2 | 8};
        for (int what = 0; what < 4; what++) {
            due("59 by 5: " + what, x.parts(59, 5, what), want[what]);
            due("0 by 1: " + what, x.parts(0, 1, what), 0);
        }
        next(24, "OUTSIDE: a (0 to 9999), b (1 to 9999), what.");
        refused("a", x, n -> x.parts(n, 1, 0), OUTSIDE, LEAST, -1, 10000, GREATEST);
        refused("b", x, n -> x.parts(1, n, 0), OUTSIDE, LEAST, -1, 0, 10000, GREATEST);
        refused("what", x, n -> x.parts(1, 1, n), OUTSIDE, LEAST, -1, 4, GREATEST);
    }

    // ---- stones

    private static void stones() {
        next(25, "THE PAGE becomes THE STONE: letters of SIGNS, \".\" a gap, \"*\" behind all: broken: how many places; THE PAGE is empty then.");
        LetterSums x = customs("I9,V1");
        due("places", stone(x, "V..*"), 3);
        due("the page", x.count(1), 0);
        due("places are kept", x.count(2), 3);
        DocumentTest.saysAll(x, 0, 7, 8);
        due("unbroken", stone(x, "V.."), 3);
        DocumentTest.saysAll(x, 0, 7);
        next(25, "STATE: it is none.");
        for (String text : new String[] {"", "*", "V....", "V*.", "V-", "I".repeat(21)}) {
            page(x, text);
            refused("stone of " + text, x, n -> x.stone(), STATE, 0);
        }
        due("the one ahead stays", x.says(0, 0), 7);
        next(26, "How many WORTHS THE STONE SAYS by a CUSTOM.");
        LetterSums y = customs("I3,V1,X3,I<VX", "i1,M1", "V1");
        stone(y, "X.*");
        // XI, XII, XIV, XIX, XV, XVI, XX, XXI, XXV, XXX
        due("ten", y.could(0), 10);
        stone(y, ".");
        due("I, V, X", y.could(0), 3);
        due("i and M are worth as much", y.could(1), 1);
        due("V", y.could(2), 1);
        next(26, "UNKNOWN: k; STATE: there is no STONE, or it was done 30 times ever (it counts on, whatever is read) with says(), sure().");
        refused("k", y, n -> y.could(n), UNKNOWN, LEAST, -1, 3, 6, GREATEST);
        LetterSums z = customs("I1");
        refused("no stone", z, n -> z.could(n), STATE, 0);
        for (int i = 0; i < 10; i++) {
            stone(z, i % 2 == 0 ? "." : "I");
            due("could", z.could(0), 1);
            due("says", z.says(0, 0), 1);
            due("sure", z.sure(0, 0), 0);
        }
        custom(z, "I2");
        stone(z, "I");
        refused("the 31st", z, n -> z.could(n), STATE, 0, 1);
        refused("the 31st", z, n -> z.says(n, 0), STATE, 0, 1);
        refused("the 31st", z, n -> z.sure(n, 0), STATE, 0, 1);
    }

    private static void stonesRead() {
        next(27, "The i-th of these (from 0), the least first; NONE: there is none (i below 0, too).");
        LetterSums x = customs("I3,V1,X3,I<VX");
        stone(x, "X.*");
        DocumentTest.saysAll(x, 0, 11, 12, 14, 15, 16, 19, 20, 21, 25, 30);
        for (int i : new int[] {LEAST, -1, 10, GREATEST}) {
            due("says " + i, x.says(0, i), NONE);
        }
        next(27, "UNKNOWN; STATE.");
        refused("k", x, n -> x.says(n, 0), UNKNOWN, LEAST, -1, 1, GREATEST);
        LetterSums y = customs("I3");
        refused("no stone", y, n -> y.says(0, n), STATE, -1, 0);
        next(28, "The SIGN that is SURE at a place (0 to 19) of THE STONE; NONE: there is none (none is sure, no FILLINGS, or no such place).");
        due("X", x.sure(0, 0), 2);
        due("many", x.sure(0, 1), NONE);
        due("behind the broken end", x.sure(0, 2), NONE);
        due("place 19", x.sure(0, 19), NONE);
        stone(x, "II.");
        due("only I", x.sure(0, 2), 0);
        stone(x, "VV.");
        due("no fillings", x.sure(0, 0), NONE);
        stone(y, "I.*");
        due("I in all", y.sure(0, 1), 0);
        next(28, "UNKNOWN: k; OUTSIDE: place; STATE.");
        refused("k", x, n -> x.sure(n, 0), UNKNOWN, LEAST, -1, 1, GREATEST);
        refused("place", x, n -> x.sure(0, n), OUTSIDE, LEAST, -1, 20, GREATEST);
        LetterSums z = customs("I3");
        refused("no stone", z, n -> z.sure(0, n), STATE, 0, 19);
    }

    // ---- masons, accounts

    private static void masons() {
        next(29, "A ROW is noted as a MASON's: how many are.");
        LetterSums x = customs("I3", "V1", "I4,V1");
        for (int i = 1; i <= 30; i++) {
            due("note(5, 0)", x.note(5, 0), i);
        }
        due("another's", x.note(4, 0), 1);
        next(29, "UNKNOWN: m, r; FULL: 30 are.");
        refused("m", x, n -> x.note(n, 0), UNKNOWN, LEAST, -1, 6, GREATEST);
        refused("r", x, n -> x.note(0, n), UNKNOWN, LEAST, -1, 12, GREATEST);
        refused("30 are", x, n -> x.note(5, n), FULL, 0, 11);
        next(30, "HABIT, as bits of CUSTOMS (all that there are, without ROWS).");
        due("without rows", x.habit(0), 7);
        due("of I", x.habit(5), 5);
        custom(x, "I1");
        due("without rows", x.habit(0), 15);
        due("of I", x.habit(5), 13);
        next(30, "UNKNOWN.");
        refused("m", x, n -> x.habit(n), UNKNOWN, LEAST, -1, 6, GREATEST);
        next(31, "MASONS whose a ROW MAY be, as bits.");
        row(x, 1, "V");
        row(x, 2, "VV");
        x.note(4, 1);
        x.note(3, 2);
        due("I: by I3, I4, I1", x.hands(0), 1 | 2 | 4 | 16 | 32);
        due("V: by V1 and the third", x.hands(1), 1 | 2 | 4 | 16 | 32);
        due("VV: by none", x.hands(2), 0);
        x.note(0, 1);
        row(x, 3, "III");
        due("III: the first keeps V1 or the third", x.hands(3), 1 | 2 | 4 | 16 | 32);
        row(x, 4, "IIII");
        x.note(1, 3);
        due("IIII", x.hands(4), 1 | 2 | 4 | 16 | 32);
        next(31, "UNKNOWN.");
        refused("r", x, n -> x.hands(n), UNKNOWN, LEAST, -1, 12, GREATEST);
    }

    private static void accounts() {
        next(32, "A LINE: amount ROW a, total ROW t, as they are now: how many.");
        LetterSums x = new LetterSums();
        due("first", x.line(0, 1), 1);
        row(x, 0, "V");
        row(x, 1, "X");
        due("the rows of a line stay", x.wrong(), NONE);
        due("second", x.line(0, 1), 2);
        due("5 and 1 are not 10", x.wrong(), 1);
        next(32, "UNKNOWN; FULL.");
        refused("a", x, n -> x.line(n, 0), UNKNOWN, LEAST, -1, 12, GREATEST);
        refused("t", x, n -> x.line(0, n), UNKNOWN, LEAST, -1, 12, GREATEST);
        for (int i = 3; i <= 20; i++) {
            due("more", x.line(0, 1), i);
        }
        refused("20 are", x, n -> x.line(0, n), FULL, 0, 11);
        next(33, "No LINES: how many there were.");
        due("20", x.tear(), 20);
        due("none", x.tear(), 0);
        next(34, "The first WRONG LINE; NONE.");
        due("no lines", x.wrong(), NONE);
        due("line 2", account("I", "I", "I", "II", "I", "II", "I", "II").wrong(), 2);
        due("line 19", account(twentyLines()).wrong(), 19);
        next(35, "The LINE at which it is MENDED; NONE.");
        due("no lines", x.mended(), NONE);
        due("line 19 is the last", account(twentyLines()).mended(), NONE);
        due("line 4", account("I", "I", "I", "II", "I", "II", "I", "II", "I", "V").mended(), 4);
        next(36, "Of THE SLIP: what = 0 part, 1 sort, 2 place, 3 the SIGN that should be there (NONE for one too much); NONE: there is none.");
        DocumentTest.slipIs(account("I", "I", "I", "II", "I", "II"), 1, 0, 0, 0);
        DocumentTest.slipIs(account("L", "ILIX"), 1, 1, 3, NONE);
        DocumentTest.slipIs(account("MMM", "I"), NONE, NONE, NONE, NONE);
        next(36, "OUTSIDE.");
        refused("what", x, n -> x.slip(n), OUTSIDE, LEAST, -1, 4, GREATEST);
    }

    /** The last of them is wrong. */
    private static String[] twentyLines() {
        String[] texts = new String[40];
        for (int i = 0; i < 20; i++) {
            texts[2 * i] = "I";
            texts[2 * i + 1] = "I".repeat(i == 19 ? 22 : i + 1);
        }
        return texts;
    }

    // ---- what is told

    private static LetterSums laden() {
        LetterSums x = customs("I3,V1,I<V", "X2,I<<X");
        row(x, 1, "XIV");
        row(x, 11, "IIX");
        x.pour(1, true);
        x.settle();
        x.note(2, 11);
        x.line(1, 11);
        x.line(0, 0);
        x.ways(0, 4);
        x.write(3, 0, 4, NONE);
        stone(x, "X.I*");
        x.could(0);
        x.says(0, 0);
        x.sure(0, 0);
        return page(x, "A,~");
    }

    private static void told() {
        next(37, "How many: 0 CUSTOMS, 1 letters of THE PAGE, 2 places of THE STONE, 3 LINES, 4 how often ways() and write(), "
            + "5 could(), says(), sure() were done, 6 STEPS of the latest SETTLING.");
        LetterSums x = laden();
        int[] want = {2, 3, 3, 2, 2, 3, 2};
        for (int what = 0; what <= 6; what++) {
            due("count(" + what + ")", x.count(what), want[what]);
        }
        next(37, "OUTSIDE.");
        refused("what", x, n -> x.count(n), OUTSIDE, LEAST, -1, 7, GREATEST);
    }

    private static void digest() {
        next(38, "h is 223, then for each of these numbers, in order, 31 times h, and it (as longs, wrapping): letters of THE PAGE; "
            + "of each CUSTOM of each SIGN what asks() tells for 0 to 2; of each ROW its length, SIGNS; "
            + "of each SIGN 0 to 6 GIVEN, OWED; of THE STONE its SIGNS (14 for a gap), 1 if it is broken, else 0; "
            + "of each MASON how many ROWS are noted, HABIT; of each LINE THE WORTH of amount, total; what count() tells for 4 to 6.");
        List<Integer> all = new ArrayList<>(List.of((int) 'A', (int) ',', (int) '~'));
        int[][] asked = new int[2][42];
        asked[0][0] = 3;
        asked[0][1] = 1 << 1;
        asked[0][3] = 1;
        asked[1][2] = 1 << 2;
        asked[1][6] = 2;
        for (int[] numbers : asked) {
            for (int number : numbers) {
                all.add(number);
            }
        }
        for (int r = 0; r < 12; r++) {
            all.addAll(r == 1 ? List.of(3, 2, 0, 1) : r == 3 ? List.of(2, 0, 1) : r == 11 ? List.of(3, 0, 0, 2) : List.of(1, 0));
        }
        all.addAll(List.of(4, 0, 0, 0, 1, 0, 0, 0, 0, 0, 0, 0, 0, 0));
        all.addAll(List.of(2, 14, 0, 1));
        all.addAll(List.of(0, 3, 0, 3, 1, 2, 0, 3, 0, 3, 0, 3));
        all.addAll(List.of(14, 8, 1, 1));
        all.addAll(List.of(2, 3, 2));
        long h = 223;
        for (int number : all) {
            h = 31 * h + number;
        }
        due("digest()", laden().digest(), h);
    }

    private static void notPromised() {
        next(38, "How the state is held inside the object is free, as are the speed of each call, the text of toString and the behaviour "
            + "of equals and hashCode.");
        next(38, "Use of one object from several threads at once is not promised to be safe.");
        next(38, "Nothing is promised beyond the answers and state changes described above, and nothing about an object after its 512th call.");
        LetterSums x = laden();
        LetterSums y = laden();
        due("two objects by the same calls answer alike", x.digest(), y.digest());
        x.sweep();
        due("one does not change the other", y.holds(), 14);
    }
}
