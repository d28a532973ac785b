import java.lang.reflect.Method;

/** Each promise of the document, by hand: ordinary inputs, the edges that it names, wrong inputs. */
public final class PromisesTest extends Bench {
    public static void main(String[] args) throws ReflectiveOperationException {
        for (promise = 1; promise <= 38; promise++) {
            Method method = PromisesTest.class.getDeclaredMethod("promise" + promise);
            int before = checkedSoFar();
            method.invoke(null);
            due("tests of it", checkedSoFar() > before ? 1 : 0, 1);
        }
        report("PromisesTest");
    }

    private static void promise1() {
        LetterSums x = new LetterSums();
        for (int what = 0; what <= 6; what++) {
            due("count(" + what + ")", x.count(what), 0);
        }
        for (int r = 0; r < 12; r++) {
            same(x, r, "I");
        }
        for (int s = 0; s < 7; s++) {
            due("board", x.board(s, 0) + x.board(s, 1), 0);
        }
        due("step(0)", x.step(0), NONE);
        due("asks(0, 0, 0)", x.asks(0, 0, 0), UNKNOWN);
        due("wrong()", x.wrong(), NONE);
        due("NONE", LetterSums.NONE, NONE);
        due("UNKNOWN", LetterSums.UNKNOWN, UNKNOWN);
        due("OUTSIDE", LetterSums.OUTSIDE, OUTSIDE);
        due("STATE", LetterSums.STATE, STATE);
        due("FULL", LetterSums.FULL, FULL);
    }

    private static void promise2() {
        LetterSums x = new LetterSums();
        due("no letters", x.letters(0), 0);
        due("one letter", x.letters('X'), 1);
        due("eight letters", x.letters(packed("IIIIIIII")), 9);
        due("codes 1 and 126", x.letters(1 | 126 << 8), 11);
        long before = x.digest();
        refused("code 127", x, before, x.letters(127), OUTSIDE);
        refused("code 255 last", x, before, x.letters(-1L << 56 | packed("IIIIIII")), OUTSIDE);
        refused("code 128", x, before, x.letters(128L << 8 | 'I'), OUTSIDE);
        refused("behind a 0", x, before, x.letters('X' << 8), OUTSIDE);
        refused("behind a 0, far", x, before, x.letters((long) 'X' << 56 | 'I'), OUTSIDE);
        for (int i = 0; i < 8; i++) {
            x.letters(packed("ABCDEFGH"));
        }
        due("to 80", x.letters(packed("ABCDE")), 80);
        before = x.digest();
        refused("81", x, before, x.letters('I'), FULL);
        due("none more", x.letters(0), 80);
        refused("OUTSIDE ahead of FULL", x, before, x.letters(200), OUTSIDE);
    }

    private static void promise3() {
        LetterSums x = page("XIV, and more");
        due("blank()", x.blank(), 13);
        due("letters left", x.count(1), 0);
        due("blank() of none", x.blank(), 0);
        due("as new", x.digest(), new LetterSums().digest());
    }

    private static void promise4() {
        due("none", new LetterSums().good(), 0);
        String[] texts = {"I3", "I3,", "I", "I<", "I<<", "I<V", "I<<V", "I<VX,X<LC", "d<", "d<m", "c<<", "c<<dm", "M<v", "v<<l"};
        for (String text : texts) {
            due("all of " + text, page(text).good(), text.length());
        }
        due("m<", page("m<").good(), 1);
        due("d<<", page("d<<").good(), 2);
        due("d<<m", page("d<<m").good(), 2);
        due("M<i", page("M<i").good(), 2);
        due("i<M", page("i<M").good(), 2);
        due("V<<X", page("V<<X").good(), 3);
        due("V<I", page("V<I").good(), 2);
        due("I<I", page("I<I").good(), 2);
        due("I0", page("I0").good(), 1);
        due("I12", page("I12").good(), 2);
        due("I<<<", page("I<<<").good(), 3);
        due("I<,", page("I<,").good(), 2);
        due("I3,,", page("I3,,").good(), 3);
        due(",", page(",").good(), 0);
        due("A", page("A").good(), 0);
        due("I<V9", page("I<V9").good(), 3);
        due("I3 ", page("I3 ").good(), 2);
        LetterSums x = page("I3,m<");
        x.good();
        due("the page stays", x.count(1), 5);
    }

    private static void promise5() {
        LetterSums x = new LetterSums();
        due("first", custom(x, "I3"), 0);
        due("the page is empty then", x.count(1), 0);
        due("second", custom(x, "I3,I4,I<V,I<X"), 1);
        long before;
        for (String text : new String[] {"", "I", "I3,", "I<", "I<<", "I0", "M<i", "V<<X", "d<<m", "I3;", "3", "I<V,"}) {
            page(x, text);
            before = x.digest();
            refused("custom() of " + text, x, before, x.custom(), STATE);
        }
        for (int k = 2; k < 6; k++) {
            due("more", custom(x, "V" + k), k);
        }
        page(x, "V1");
        before = x.digest();
        refused("a seventh", x, before, x.custom(), FULL);
        page(x, "V0");
        refused("STATE ahead of FULL", x, x.digest(), x.custom(), STATE);
    }

    private static void promise6() {
        LetterSums x = customs("I3,I4,I<V,I<XX,I<<L,I<<C,m9,c<<dm", OLD);
        due("the later count", x.asks(0, 0, 0), 4);
        due("count not told", x.asks(0, 1, 0), 0);
        due("count of m", x.asks(0, 13, 0), 9);
        due("once is gathered", x.asks(0, 0, 1), 1 << 1 | 1 << 2);
        due("twice is gathered", x.asks(0, 0, 2), 1 << 3 | 1 << 4);
        due("twice alone", x.asks(0, 11, 1), 0);
        due("twice of c", x.asks(0, 11, 2), 1 << 12 | 1 << 13);
        due("of the second", x.asks(1, 0, 2), 4);
        long before = x.digest();
        refused("k -1", x, before, x.asks(-1, 0, 0), UNKNOWN);
        refused("k 2", x, before, x.asks(2, 0, 0), UNKNOWN);
        refused("sign -1", x, before, x.asks(0, -1, 0), UNKNOWN);
        refused("sign 14", x, before, x.asks(0, 14, 0), UNKNOWN);
        refused("what -1", x, before, x.asks(0, 0, -1), OUTSIDE);
        refused("what 3", x, before, x.asks(0, 0, 3), OUTSIDE);
        refused("UNKNOWN first", x, before, x.asks(0, 14, 3), UNKNOWN);
    }

    private static void promise7() {
        LetterSums x = new LetterSums();
        due("all signs", row(x, 11, "IVXLCDMivxlcdm"), 14);
        same(x, 11, "IVXLCDMivxlcdm");
        due("the page is empty then", x.count(1), 0);
        due("24 signs", row(x, 0, "IIIIIIIIIIIIIIIIIIIIIIII"), 24);
        due("one", row(x, 0, "m"), 1);
        same(x, 0, "m");
        for (String text : new String[] {"", "IIIIIIIIIIIIIIIIIIIIIIIII", "XIA", "X.", "X*", "I3", "X V"}) {
            page(x, text);
            refused("row(0) of " + text, x, x.digest(), x.row(0), STATE);
        }
        page(x, "A");
        refused("UNKNOWN first", x, x.digest(), x.row(12), UNKNOWN);
        page(x, "X");
        refused("r -1", x, x.digest(), x.row(-1), UNKNOWN);
    }

    private static void promise8() {
        LetterSums x = new LetterSums();
        row(x, 3, "XIm");
        same(x, 3, "XIm");
        due("i -1", x.sign(3, -1), NONE);
        due("i 3", x.sign(3, 3), NONE);
        due("i 24", x.sign(3, 24), NONE);
        due("i of the greatest", x.sign(3, Integer.MAX_VALUE), NONE);
        due("i of the least", x.sign(3, Integer.MIN_VALUE), NONE);
        due("r -1", x.sign(-1, 0), UNKNOWN);
        due("r 12", x.sign(12, -1), UNKNOWN);
        row(x, 3, "V");
        due("a longer row is gone", x.sign(3, 1), NONE);
    }

    private static void promise9() {
        due("MCMXCIV", worthOf("MCMXCIV"), 1994);
        due("IXC", worthOf("IXC"), 89);
        due("IIX", worthOf("IIX"), 8);
        due("IIIIX", worthOf("IIIIX"), 6);
        due("IVX: both are taken", worthOf("IVX"), 4);
        due("XIXX", worthOf("XIXX"), 29);
        due("XXC", worthOf("XXC"), 80);
        due("Mi: M is taken from i", worthOf("Mi"), 0);
        due("iM: none is taken", worthOf("iM"), 2000);
        due("below 0", worthOf("ddm"), 0);
        due("VVX", worthOf("VVX"), 0);
        due("VVVX", worthOf("VVVX"), -5);
        due("all signs", worthOf("IVXLCDMivxlcdm"), 332334);
        due("24 m", worthOf("mmmmmmmmmmmmmmmmmmmmmmmm"), 24000000);
        LetterSums x = new LetterSums();
        due("r -1", x.worth(-1), -100000001);
        due("r 12", x.worth(12), -100000001);
    }

    private static void promise10() {
        for (String text : new String[] {"MCMLXLIV", "III", "IX", "XIX", "LXXXVIII", "CXC", "VIV", "DCD", "XXXIX"}) {
            due(text, keeps(USUAL, text), 1);
        }
        for (String text : new String[] {"IIII", "MCMXCIV", "IXC", "IXI", "IXV", "VX", "VIX", "IIX", "XIXX", "VV", "XCX", "XCL", "XCXL", "IVIV", "IXIV", "i", "XXXX", "IIV"}) {
            due(text, keeps(USUAL, text), 0);
        }
        due("IIX", keeps(OLD, "IIX"), 1);
        due("IX: twice alone", keeps(OLD, "IX"), 0);
        due("IIXI", keeps(OLD, "IIXI"), 0);
        due("XIIX", keeps(OLD, "XIIX"), 1);
        due("IIIX", keeps(OLD, "IIIX"), 0);
        due("a taking from a sign without a count", keeps("I<V", "IV"), 1);
        due("no plain one then", keeps("I<V", "I"), 0);
        due("V behind XC", keeps("X<C,V1,I1", "XCVI"), 1);
        due("i ahead of M", keeps("i1,M1", "iM"), 1);
        due("M ahead of i", keeps("i1,M1", "Mi"), 0);
        LetterSums x = customs(USUAL);
        due("r", x.keeps(12, 0), UNKNOWN);
        due("k", x.keeps(0, 1), UNKNOWN);
        due("k -1", x.keeps(0, -1), UNKNOWN);
    }

    private static void promise11() {
        due("all", begins(USUAL, "MCMLXLIV"), 8);
        due("behind CM no head is C", begins(USUAL, "MCMXCIV"), 4);
        due("IXC", begins(USUAL, "IXC"), 2);
        due("XIXX", begins(USUAL, "XIXX"), 3);
        due("XXXX", begins(USUAL, "XXXX"), 3);
        due("II may go on to IIX", begins("I<<X", "II"), 2);
        due("I may go on to IIX", begins("I<<X", "I"), 1);
        due("IX alone not", begins("I<<X", "IX"), 1);
        due("III", begins("I<<X", "III"), 2);
        due("none", begins("V1", "I"), 0);
        due("a taking is not behind a lesser head", begins("V1,I<X", "VI"), 1);
        due("behind its own head it is", begins("X1,I<X", "XI"), 2);
        due("IVI", begins(USUAL, "IVI"), 2);
        due("XCI", begins(USUAL, "XCI"), 3);
        due("at 24 signs a longer writing counts",
            begins("m9,d9,c4,I<X", "mmmmmmmmmdddddddddccccI"), 23);
        due("the 24th begins a taking", begins("m9,d9,c5,I<X", "mmmmmmmmmdddddddddcccccI"), 24);
        LetterSums x = customs(USUAL);
        due("r", x.begins(-1, 0), UNKNOWN);
        due("k", x.begins(0, 1), UNKNOWN);
    }

    private static void promise12() {
        LetterSums x = customs(USUAL, OLD, "I9,V9,X9,L9,C9,D9,M9,i9,v9,x9,l9,I<VX,X<LC,C<DM,V<L,L<D,i<vx");
        due("1994", x.ways(0, 1994), 2);
        due("8 by the usual custom", x.ways(0, 8), 1);
        due("8 by the old one", x.ways(1, 8), 2);
        due("none", x.ways(0, 10000), 0);
        due("least", x.ways(0, 1), 1);
        due("greatest", x.ways(0, 9999999), 0);
        due("fewer", x.ways(2, 10000), 4289);
        due("so many or more", x.ways(2, 12000), 5000);
        due("how often", x.count(4), 8);
        long before = x.digest();
        refused("n 0", x, before, x.ways(0, 0), OUTSIDE);
        refused("n 10000000", x, before, x.ways(0, 10000000), OUTSIDE);
        refused("UNKNOWN first", x, before, x.ways(3, 0), UNKNOWN);
        refused("k -1", x, before, x.ways(-1, 1), UNKNOWN);
        for (int i = 8; i < 39; i++) {
            due("ways", x.ways(0, 4), 1);
        }
        custom(x, "I1");
        due("a new custom does not begin anew: the 40th", x.write(0, 0, 4, 0), 2);
        before = x.digest();
        refused("the 41st", x, before, x.ways(0, 4), STATE);
        refused("OUTSIDE ahead of STATE", x, before, x.ways(0, 0), OUTSIDE);
        refused("UNKNOWN ahead of STATE", x, before, x.ways(9, 1), UNKNOWN);
        LetterSums y = customs("I9,V9,X9");
        due("24 signs at most: 9 X, 9 V, 6 I", y.ways(0, 141), 1);
        due("25 signs are needed", y.ways(0, 142), 0);
        due("of 24 it is the shortest", y.write(0, 0, 141, NONE), 24);
    }

    private static void promise13() {
        LetterSums x = customs(USUAL, OLD, "I9,V9,X9,V<X,I<X,I<<X,I<V,I<<V",
            "I9,V1,X1,I<VXLC,V<XLC,X<LC,I<<VX,X<<C,V<<LC");
        due("shortest", x.write(0, 0, 1994, NONE), 8);
        same(x, 0, "MCMLXLIV");
        due("1994, first", x.write(0, 0, 1994, 0), 9);
        same(x, 0, "MDCDLXLIV");
        String[] of18 = {"XVIII", "XVIIV", "XIIIIIIII", "XVXIII", "XIIX", "VVVIII", "VVVIIV", "VVIIIIIIII"};
        for (int i = 0; i < of18.length; i++) {
            due("18, " + i, x.write(1, 2, 18, i), of18[i].length());
            same(x, 1, of18[i]);
        }
        due("18, none: the row stays", x.write(1, 2, 18, 8), 0);
        same(x, 1, "VVIIIIIIII");
        due("18, shortest", x.write(1, 2, 18, NONE), 4);
        same(x, 1, "XIIX");
        String[] of45 = {"XLV", "XLIIIII", "VL", "VVLIIIII"};
        for (int i = 0; i < of45.length; i++) {
            due("45, " + i, x.write(11, 3, 45, i), of45[i].length());
            same(x, 11, of45[i]);
        }
        due("of like lengths the first", x.write(2, 3, 14, NONE), 3);
        same(x, 2, "XIV");
        due("no writing", x.write(2, 0, 9999999, NONE), 0);
        custom(x, "I9,V9,X9,L9,C9,D9,M9,i9,v9,x9,l9,c9,d9,x<m,C<DM,D<M,M<vx,i<vx,v<x,l<c");
        due("xm is none of the first 5000", x.write(3, 4, 990000, NONE), 10);
        same(x, 3, "dcccclxxxx");
        due("i 5000", x.write(2, 1, 8, 5000), 0);
        due("i of the greatest", x.write(2, 1, 8, Integer.MAX_VALUE), 0);
        same(x, 2, "XIV");
        long before = x.digest();
        refused("r", x, before, x.write(12, 0, 1, 0), UNKNOWN);
        refused("k", x, before, x.write(0, 5, 1, 0), UNKNOWN);
        refused("n 0", x, before, x.write(0, 0, 0, 0), OUTSIDE);
        refused("n above", x, before, x.write(0, 0, 10000000, 0), OUTSIDE);
        refused("i below NONE", x, before, x.write(0, 0, 1, -2), OUTSIDE);
        refused("UNKNOWN first", x, before, x.write(-1, 0, 0, -2), UNKNOWN);
        for (int i = x.count(4); i < 40; i++) {
            x.write(0, 0, 4, NONE);
        }
        before = x.digest();
        refused("the 41st", x, before, x.write(0, 0, 4, NONE), STATE);
        refused("OUTSIDE ahead of STATE", x, before, x.write(0, 0, 4, -2), OUTSIDE);
    }

    private static void promise14() {
        LetterSums x = new LetterSums();
        row(x, 0, "XIV");
        x.pour(0, true);
        due("V given", x.board(1, 0), 1);
        due("I given", x.board(0, 0), 0);
        due("I owed", x.board(0, 1), 1);
        due("M", x.board(6, 0), 0);
        due("sign -1", x.board(-1, 0), UNKNOWN);
        due("sign 7", x.board(7, 5), UNKNOWN);
        due("side -1", x.board(0, -1), OUTSIDE);
        due("side 2", x.board(0, 2), OUTSIDE);
    }

    private static void promise15() {
        LetterSums x = new LetterSums();
        row(x, 0, "XXIX");
        due("in", x.pour(0, true), 4);
        due("X given", x.board(2, 0), 3);
        due("I owed", x.board(0, 1), 1);
        due("out", x.pour(0, false), 8);
        due("X owed", x.board(2, 1), 3);
        due("I given", x.board(0, 0), 1);
        row(x, 1, "Mi");
        refused("i is no column", x, x.digest(), x.pour(1, true), OUTSIDE);
        refused("r 12", x, x.digest(), x.pour(12, true), UNKNOWN);
        row(x, 2, "IIIIIIIIIIIIIIIIIIIIIIII");
        x.sweep();
        for (int i = 1; i <= 4; i++) {
            due("24 more", x.pour(2, true), 24 * i);
        }
        refused("120", x, x.digest(), x.pour(2, true), FULL);
        row(x, 2, "VIII");
        due("99", x.pour(2, true), 100);
        due("at 99", x.board(0, 0), 99);
        row(x, 3, "VI");
        refused("100, and V stays", x, x.digest(), x.pour(3, true), FULL);
        due("owed ones are apart", x.pour(3, false), 102);
        row(x, 2, "IIIIIIIIIIIIIIIIIIIIIIII");
        for (int i = 0; i < 4; i++) {
            x.pour(2, false);
        }
        row(x, 2, "II");
        due("99 owed", x.pour(2, false), 200);
        refused("100 owed", x, x.digest(), x.pour(2, false), FULL);
    }

    private static void promise16() {
        LetterSums x = new LetterSums();
        row(x, 0, "DDLLVVIIIIIXXXXXCCCCC");
        x.pour(0, true);
        refused("M is not bundled", x, x.digest(), x.bundle(6), UNKNOWN);
        refused("sign -1", x, x.digest(), x.bundle(-1), UNKNOWN);
        row(x, 0, "CCCCCXXXXXIIIII");
        x.sweep();
        x.pour(0, true);
        due("five C", x.bundle(4), 1);
        due("five X", x.bundle(2), 1);
        due("five I", x.bundle(0), 1);
        refused("too few", x, x.digest(), x.bundle(0), STATE);
        refused("one V", x, x.digest(), x.bundle(1), STATE);
        row(x, 0, "DLV");
        x.pour(0, true);
        due("two V", x.bundle(1), 1);
        due("two L", x.bundle(3), 1);
        due("two D", x.bundle(5), 1);
        due("what is left", x.sweep(), 3);
        fill(x, "V");
        fill(x, "I");
        refused("99 V are there", x, x.digest(), x.bundle(0), FULL);
        due("of V itself", x.bundle(1), 1);
        due("then there is room", x.bundle(0), 98);
        due("to 99", x.bundle(0), 99);
        refused("99 again", x, x.digest(), x.bundle(0), FULL);
    }

    /** 99 of a sign. */
    private static void fill(LetterSums x, String sign) {
        pourSome(x, SIGNS.indexOf(sign), 99, true);
    }

    private static void promise17() {
        LetterSums x = new LetterSums();
        row(x, 0, "MDCLXVI");
        x.pour(0, true);
        refused("sign 0", x, x.digest(), x.unbundle(0), UNKNOWN);
        refused("sign 7", x, x.digest(), x.unbundle(7), UNKNOWN);
        int[] below = {6, 2, 5, 2, 5, 2};
        for (int sign = 1; sign <= 6; sign++) {
            due("unbundle", x.unbundle(sign), below[sign - 1]);
        }
        due("none is left of M", x.board(6, 0), 0);
        refused("none", x, x.digest(), x.unbundle(6), STATE);
        x.sweep();
        fill(x, "I");
        row(x, 0, "VX");
        x.pour(0, false);
        refused("99 I are there", x, x.digest(), x.unbundle(1), FULL);
        x.bundle(0);
        due("94 and five", x.unbundle(1), 99);
        refused("owed ones are not unbundled", x, x.digest(), x.unbundle(2), STATE);
    }

    private static void promise18() {
        LetterSums x = new LetterSums();
        due("nothing to do", x.settle(), 0);
        row(x, 0, "IIIIIIIIII");
        x.pour(0, true);
        due("I, I, V", x.settle(), 3);
        due("X", x.board(2, 0), 1);
        x.sweep();
        row(x, 0, "M");
        row(x, 1, "I");
        x.pour(0, true);
        x.pour(1, false);
        due("M down to I, and one goes", x.settle(), 7);
        due("999", x.holds(), 999);
        x.sweep();
        x.pour(1, false);
        due("a debt that can not be paid", x.settle(), 0);
        x.sweep();
        row(x, 3, "C");
        x.pour(3, false);
        row(x, 4, "VVVV");
        x.pour(4, true);
        due("a debt above all: bundled on", x.settle(), 2);
        due("two X", x.board(2, 0), 2);
        x.sweep();
        fill(x, "V");
        row(x, 5, "IIIII");
        x.pour(5, true);
        due("ahead of 100 V it ends", x.settle(), 0);
        due("and stays", x.board(1, 0), 99);
        x.sweep();
        for (String sign : new String[] {"D", "L", "C", "X"}) {
            fill(x, sign);
        }
        due("the next would be too much: X to L", x.settle(), 0);
        x.sweep();
        for (String sign : new String[] {"I", "V", "X", "L"}) {
            fill(x, sign);
            row(x, 6, sign.repeat(24));
            for (int i = 0; i < 4; i++) {
                x.pour(6, false);
            }
        }
        due("300 steps at most", x.settle(), 300);
        due("what is left of L", x.board(3, 0), 99 - 12);
        due("the next goes on", x.settle() > 0 ? 1 : 0, 1);
    }

    private static void promise19() {
        LetterSums x = new LetterSums();
        due("ahead of all", x.step(0), NONE);
        row(x, 0, "CXLIV");
        row(x, 1, "XXIX");
        x.pour(0, true);
        x.pour(1, true);
        due("settle", x.settle(), 4);
        due("X is given and owed", x.step(0), 2);
        due("V is unbundled for I", x.step(1), 11);
        due("I goes", x.step(2), 0);
        due("I goes again", x.step(3), 0);
        due("no more", x.step(4), NONE);
        due("i -1", x.step(-1), NONE);
        due("i 300", x.step(300), NONE);
        x.sweep();
        due("sweeping leaves them", x.step(1), 11);
        row(x, 2, "VV");
        x.pour(2, true);
        x.settle();
        due("the latest: V is bundled", x.step(0), 21);
        due("the latest alone", x.step(1), NONE);
        due("count(6)", x.count(6), 1);
    }

    private static void promise20() {
        LetterSums x = new LetterSums();
        due("empty", x.holds(), 0);
        row(x, 0, "MDCLXVI");
        x.pour(0, true);
        due("all", x.holds(), 1666);
        x.pour(0, false);
        due("less all", x.holds(), 0);
        x.pour(0, false);
        due("a debt", x.holds(), -1666);
        x.sweep();
        row(x, 0, "XCIX");
        x.pour(0, true);
        due("by taken ones", x.holds(), 99);
    }

    private static void promise21() {
        LetterSums x = new LetterSums();
        refused("nothing is given", x, x.digest(), x.lift(0), STATE);
        row(x, 0, "VIIX");
        x.pour(0, true);
        refused("something is owed", x, x.digest(), x.lift(0), STATE);
        refused("UNKNOWN first", x, x.digest(), x.lift(12), UNKNOWN);
        x.sweep();
        row(x, 0, "MDCLXVI");
        x.pour(0, true);
        x.pour(0, true);
        due("the greatest first", x.lift(1), 14);
        same(x, 1, "MMDDCCLLXXVVII");
        due("the board stays", x.sweep(), 14);
        row(x, 0, "XXXXXXXXXXXXXXXXXXXXXXXI");
        x.pour(0, true);
        due("24", x.lift(2), 24);
        row(x, 0, "I");
        x.pour(0, true);
        refused("25", x, x.digest(), x.lift(2), STATE);
        x.sweep();
        row(x, 0, "X");
        x.pour(0, true);
        due("one", x.lift(2), 1);
        same(x, 2, "X");
    }

    private static void promise22() {
        LetterSums x = new LetterSums();
        due("none", x.sweep(), 0);
        row(x, 0, "XIV");
        x.pour(0, true);
        due("given and owed", x.sweep(), 3);
        due("none is left", x.sweep(), 0);
        for (int sign = 0; sign < 7; sign++) {
            due("column", x.board(sign, 0) + x.board(sign, 1), 0);
        }
    }

    private static void promise23() {
        LetterSums x = new LetterSums();
        int[] a = {27, 13, 6, 3, 1};
        int[] b = {82, 164, 328, 656, 1312};
        due("product", x.times(27, 82, 0), 2214);
        due("lines", x.times(27, 82, 1), 5);
        for (int i = 0; i < 20; i++) {
            due("a of line " + i, x.times(27, 82, 10 + i), i < 5 ? a[i] : NONE);
            due("b of line " + i, x.times(27, 82, 30 + i), i < 5 ? b[i] : NONE);
        }
        due("one line", x.times(1, 9999, 1), 1);
        due("its product", x.times(1, 9999, 0), 9999);
        due("greatest", x.times(9999, 9999, 0), 99980001);
        due("greatest lines", x.times(9999, 1, 1), 14);
        for (int[] args : new int[][] {{0, 1, 0}, {10000, 1, 0}, {1, 0, 0}, {1, 10000, 0}, {1, 1, -1}, {1, 1, 2},
            {1, 1, 9}, {1, 1, 50}, {-5, 1, 0}}) {
            due("times of " + args[0] + ", " + args[1] + ", " + args[2], x.times(args[0], args[1], args[2]), OUTSIDE);
        }
    }

    private static void promise24() {
        LetterSums x = new LetterSums();
        due("sum", x.parts(1000, 37, 0), 27);
        due("left", x.parts(1000, 37, 1), 1);
        due("lines", x.parts(1000, 37, 2), 5);
        due("taken", x.parts(1000, 37, 3), 1 | 2 | 8 | 16);
        due("no lines", x.parts(5, 9, 2), 0);
        due("all is left", x.parts(5, 9, 1), 5);
        due("none taken", x.parts(5, 9, 3), 0);
        due("of 0", x.parts(0, 1, 0), 0);
        due("alike: one line", x.parts(9, 9, 2), 1);
        due("greatest", x.parts(9999, 1, 0), 9999);
        due("greatest lines", x.parts(9999, 1, 2), 14);
        due("greatest b", x.parts(9999, 9999, 0), 1);
        for (int[] args : new int[][] {{-1, 1, 0}, {10000, 1, 0}, {1, 0, 0}, {1, 10000, 0}, {1, 1, -1}, {1, 1, 4}}) {
            due("parts of " + args[0] + ", " + args[1] + ", " + args[2], x.parts(args[0], args[1], args[2]), OUTSIDE);
        }
    }

    private static void promise25() {
        LetterSums x = new LetterSums();
        due("broken", stone(x, "M.X.*"), 4);
        due("the page is empty then", x.count(1), 0);
        due("places", x.count(2), 4);
        due("three gaps", stone(x, "..."), 3);
        due("20 places", stone(x, "IIIIIIIIIIIIIIIIIIII*"), 20);
        due("one gap", stone(x, "."), 1);
        String[] none = {"", "*", "....", "I*I", "**", "X**", "IIIIIIIIIIIIIIIIIIIII", "XA", "X-"};
        for (String text : none) {
            page(x, text);
            refused("stone() of " + text, x, x.digest(), x.stone(), STATE);
        }
        due("the old one stays", x.count(2), 1);
    }

    private static void promise26() {
        LetterSums x = customs(USUAL, OLD);
        refused("no stone", x, x.digest(), x.could(0), STATE);
        refused("UNKNOWN first", x, x.digest(), x.could(2), UNKNOWN);
        stone(x, "M.X.*");
        due("by the usual custom", x.could(0), 70);
        due("by the old one", x.could(1), 40);
        stone(x, "VV");
        due("none", x.could(0), 0);
        stone(x, "XI*");
        due("XI, XII, XIV, XIX", x.could(0), 4);
        custom(x, "m9,d9,c3");
        due("20 places, broken", stone(x, "mmmmmmmmmdddddddddcc*"), 20);
        due("cc and ccc", x.could(2), 2);
        stone(x, "XI*");
        for (int i = x.count(5); i < 28; i++) {
            x.says(0, 0);
        }
        due("29th", x.sure(0, 0), 2);
        stone(x, ".");
        due("30th: seven plain ones", x.could(0), 7);
        long before = x.digest();
        refused("31st", x, before, x.could(0), STATE);
        refused("UNKNOWN ahead of STATE", x, before, x.could(-1), UNKNOWN);
    }

    private static void promise27() {
        LetterSums x = customs(USUAL);
        refused("no stone", x, x.digest(), x.says(0, 0), STATE);
        stone(x, "XI*");
        int[] worths = {11, 12, 14, 19};
        for (int i = -1; i <= 4; i++) {
            due("says " + i, x.says(0, i), i < 0 || i > 3 ? NONE : worths[i]);
        }
        due("they count", x.count(5), 6);
        due("k", x.says(1, 0), UNKNOWN);
        // i and M say the same worth, which is one worth then
        LetterSums y = customs("i1,M1,I1");
        stone(y, ".");
        due("like worths are one", y.could(0), 2);
        due("the greater", y.says(0, 1), 1000);
        stone(y, "i.");
        custom(y, "I1,M1,i1,v1");
        stone(y, ".");
        due("behind like ones", y.says(1, 2), 5000);
        due("no more", y.says(1, 3), NONE);
        stone(x, "..");
        int[] least = {2, 4, 6, 9, 11, 15};
        for (int i = 0; i < least.length; i++) {
            due("the least first: " + i, x.says(0, i), least[i]);
        }
        stone(y, "i.");
        due("iI, iM", y.says(0, 0) * 10000 + y.says(0, 1), 10012000);
        for (int i = y.count(5); i < 30; i++) {
            y.says(0, -1);
        }
        refused("31st", y, y.digest(), y.says(0, 0), STATE);
    }

    private static void promise28() {
        LetterSums x = customs(USUAL, "I<V,X1");
        refused("no stone", x, x.digest(), x.sure(0, 0), STATE);
        refused("OUTSIDE ahead of STATE", x, x.digest(), x.sure(0, 20), OUTSIDE);
        refused("UNKNOWN first", x, x.digest(), x.sure(2, 20), UNKNOWN);
        stone(x, "M.X.*");
        due("a sign that stands", x.sure(0, 0), 6);
        due("a gap of many", x.sure(0, 1), NONE);
        due("no such place", x.sure(0, 4), NONE);
        due("no such place 19", x.sure(0, 19), NONE);
        refused("place -1", x, x.digest(), x.sure(0, -1), OUTSIDE);
        stone(x, "X.V");
        due("only I can be there", x.sure(1, 1), 0);
        stone(x, "I*");
        due("the broken end must have been V", x.sure(1, 0), 0);
        due("but is no place", x.sure(1, 1), NONE);
        stone(x, "VV");
        due("no fillings", x.sure(0, 0), NONE);
        for (int i = x.count(5); i < 30; i++) {
            x.sure(0, 0);
        }
        refused("31st", x, x.digest(), x.sure(0, 0), STATE);
    }

    private static void promise29() {
        LetterSums x = new LetterSums();
        for (int i = 1; i <= 30; i++) {
            due("note", x.note(0, i % 12), i);
        }
        refused("31", x, x.digest(), x.note(0, 0), FULL);
        due("another mason", x.note(5, 0), 1);
        refused("m -1", x, x.digest(), x.note(-1, 0), UNKNOWN);
        refused("m 6", x, x.digest(), x.note(6, 0), UNKNOWN);
        refused("r 12, ahead of FULL", x, x.digest(), x.note(0, 12), UNKNOWN);
    }

    private static void promise30() {
        LetterSums x = new LetterSums();
        due("no customs", x.habit(0), 0);
        custom(x, USUAL);
        custom(x, OLD);
        due("without rows: all", x.habit(0), 3);
        row(x, 0, "XIV");
        row(x, 1, "IIX");
        row(x, 2, "VII");
        x.note(0, 2);
        due("by both", x.habit(0), 3);
        x.note(0, 0);
        due("by the usual one", x.habit(0), 1);
        x.note(1, 1);
        due("by the old one", x.habit(1), 2);
        x.note(2, 0);
        x.note(2, 1);
        due("by none", x.habit(2), 0);
        row(x, 0, "IIX");
        due("as it was when noted", x.habit(0), 1);
        custom(x, "X1,V1,I2,I<V,I<<X");
        due("customs read later count", x.habit(0), 5);
        due("for all of them", x.habit(2), 4);
        due("m -1", x.habit(-1), UNKNOWN);
        due("m 6", x.habit(6), UNKNOWN);
    }

    private static void promise31() {
        LetterSums x = new LetterSums();
        due("no customs", x.hands(0), 0);
        custom(x, USUAL);
        custom(x, OLD);
        row(x, 0, "XIV");
        row(x, 1, "IIX");
        row(x, 2, "VII");
        row(x, 3, "VX");
        x.note(0, 0);
        x.note(1, 1);
        x.note(2, 0);
        x.note(2, 1);
        due("VII", x.hands(2), 1 | 2 | 8 | 16 | 32);
        due("XIV", x.hands(0), 1 | 8 | 16 | 32);
        due("IIX", x.hands(1), 2 | 8 | 16 | 32);
        due("VX", x.hands(3), 0);
        due("r 12", x.hands(12), UNKNOWN);
        due("r -1", x.hands(-1), UNKNOWN);
    }

    private static void promise32() {
        LetterSums x = new LetterSums();
        for (int i = 1; i <= 20; i++) {
            row(x, 1, "I".repeat(i));
            due("line", x.line(0, 1), i);
        }
        due("as they were", x.wrong(), NONE);
        refused("21", x, x.digest(), x.line(0, 0), FULL);
        refused("a", x, x.digest(), x.line(12, 0), UNKNOWN);
        refused("t", x, x.digest(), x.line(0, -1), UNKNOWN);
        due("count(3)", x.count(3), 20);
    }

    private static void promise33() {
        LetterSums x = new LetterSums();
        due("none", x.tear(), 0);
        long before = x.digest();
        x.line(0, 0);
        x.line(0, 0);
        due("wrong ahead", x.wrong(), 1);
        due("two", x.tear(), 2);
        due("no lines", x.count(3), 0);
        due("none is wrong", x.wrong(), NONE);
        due("as before", x.digest(), before);
        due("first again", x.line(0, 0), 1);
    }

    private static void promise34() {
        due("no lines", new LetterSums().wrong(), NONE);
        due("all right", account("XIV", "XIV", "XXVII", "XLI").wrong(), NONE);
        due("the first", account("XIV", "XV", "XXVII", "XLI").wrong(), 0);
        due("the second", account("XIV", "XIV", "XXVII", "XL").wrong(), 1);
        due("by the total ahead, wrong as it is", account("X", "X", "X", "XV", "X", "XX").wrong(), 1);
        due("by worth alone", account("IIX", "VIII", "VX", "XIII").wrong(), NONE);
        due("below 0", account("VVVX", "VVVX", "V", "VVX").wrong(), NONE);
    }

    private static void promise35() {
        due("no lines", new LetterSums().mended(), NONE);
        due("none is wrong", account("X", "X", "X", "XX").mended(), NONE);
        due("not mended", account("X", "X", "X", "XV", "X", "XXV").mended(), NONE);
        due("mended", account("X", "X", "X", "XV", "X", "XXX").mended(), 2);
        due("not at the wrong one itself", account("X", "V", "X", "XV").mended(), NONE);
        LetterSums x = account("X", "X", "X", "XV", "X", "XXX");
        x.tear();
        row(x, 0, "X");
        row(x, 1, "XV");
        x.line(0, 0);
        x.line(0, 1);
        due("torn lines mend nothing", x.mended(), NONE);
        due("later", account("X", "V", "X", "XV", "X", "XXV", "X", "XL", "X", "L").mended(), 3);
        due("by a second slip", account("X", "X", "X", "XV", "X", "XX", "X", "XL").mended(), 3);
    }

    private static void slip(LetterSums x, int part, int sort, int place, int sign) {
        due("part", x.slip(0), part);
        due("sort", x.slip(1), sort);
        due("place", x.slip(2), place);
        due("sign", x.slip(3), sign);
    }

    private static void promise36() {
        LetterSums x = new LetterSums();
        slip(x, NONE, NONE, NONE, NONE);
        due("what -1", x.slip(-1), OUTSIDE);
        due("what 4", x.slip(4), OUTSIDE);
        slip(account("X", "X"), NONE, NONE, NONE, NONE);
        slip(account("XIV", "XIV", "XXVII", "XL"), 0, 0, 0, 0);
        slip(account("LIX", "IX"), 0, 1, 0, NONE);
        slip(account("LLIXL", "LIIC"), 0, 2, 3, 0);
        slip(account("LXL", "X"), 1, 0, 1, 4);
        slip(account("L", "ILIX"), 1, 1, 3, NONE);
        slip(account("VIXVL", "LII"), 1, 2, 2, 2);
        slip(account("CCV", "VXVVL"), NONE, NONE, NONE, NONE);
        slip(account("X", "XI"), 0, 0, 1, 0);
        slip(account("XX", "X"), 0, 1, 0, NONE);
        slip(account("X", "D"), 0, 2, 0, 5);
        slip(account("X", "X", "X", "XX", "L", "LX"), 0, 0, 0, 2);
        slip(account("MMM", "I"), NONE, NONE, NONE, NONE);
        slip(account("M", "MCC"), NONE, NONE, NONE, NONE);
        LetterSums y = account("X", "XI");
        slip(y, 0, 0, 1, 0);
        y.tear();
        slip(y, NONE, NONE, NONE, NONE);
        y.line(2, 1);
        slip(y, 0, 0, 0, 2);
        // X alone is not one too much: a row stays of one sign at least
        slip(account("X", "VVX"), 1, 0, 0, 2);
        // 24 signs take none more: no I is put in
        slip(account("IIIIIIIIIIIIIIIIIIIIIIII", "XXV"), 0, 2, 4, 2);
    }

    private static void promise37() {
        LetterSums x = customs(USUAL, OLD);
        page(x, "XI");
        due("customs", x.count(0), 2);
        due("letters", x.count(1), 2);
        due("places", x.count(2), 0);
        stone(x, "M..*");
        due("places now", x.count(2), 3);
        x.line(0, 0);
        due("lines", x.count(3), 1);
        x.ways(0, 1);
        x.write(0, 0, 5, 0);
        x.write(0, 0, 5, 99);
        x.ways(0, 0);
        due("ways and write, but for refused ones", x.count(4), 3);
        x.could(0);
        x.says(0, -1);
        x.sure(0, 0);
        x.sure(0, 20);
        due("could, says and sure, but for refused ones", x.count(5), 3);
        row(x, 0, "IIIII");
        x.pour(0, true);
        x.settle();
        due("steps", x.count(6), 1);
        due("what -1", x.count(-1), OUTSIDE);
        due("what 7", x.count(7), OUTSIDE);
    }

    private static void promise38() {
        long h = 223;
        for (int r = 0; r < 12; r++) {
            h = (31 * h + 1) * 31;
        }
        for (int i = 0; i < 14 + 1 + 12 + 3; i++) {
            h = 31 * h;
        }
        due("of a new one", new LetterSums().digest(), h);

        LetterSums x = customs("I3,I<V,I<<X");
        x.note(1, 0);
        row(x, 2, "IV");
        x.pour(2, true);
        x.line(2, 0);
        stone(x, "X.*");
        x.ways(0, 4);
        x.could(0);
        x.could(0);
        x.letters(packed("A,"));
        h = 223;
        long[] numbers = new long[] {
            'A', ',',
            3, 2, 4};
        for (long number : numbers) {
            h = 31 * h + number;
        }
        for (int i = 3; i < 42; i++) {
            h = 31 * h;
        }
        for (int r = 0; r < 12; r++) {
            h = r == 2 ? ((31 * h + 2) * 31) * 31 + 1 : (31 * h + 1) * 31;
        }
        for (long number : new long[] {0, 1, 1, 0, 0, 0, 0, 0, 0, 0, 0, 0, 0, 0, 2, 14, 1,
            0, 1, 1, 1, 0, 1, 0, 1, 0, 1, 0, 1, 4, 1, 1, 2, 0}) {
            h = 31 * h + number;
        }
        due("of all parts", x.digest(), h);
        due("it changes nothing", x.digest(), h);
    }
}
