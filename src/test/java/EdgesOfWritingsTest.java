/** The boundary cases of worths and writings: promises 9 to 13, and the terms they rest on. */
public final class EdgesOfWritingsTest extends Bench {
    /** By it 19565 has 4999 writings, 20155 has 5000, 31120 has 5001 (counted apart from the class). */
    private static final String MANY =
        "I2,V8,X7,L9,C9,D8,M9,i9,v9,x7,X<CDMix,V<XLCvx,L<CDMil,i<<xl,v<x,D<vx,C<ix,M<vl";
    /** By it the first writing of 9600 of four signs is the last of the first 5000; shorter ones are none of these. */
    private static final String LAST_OF_THEM =
        "I9,V9,X9,L9,C9,D9,M9,i9,v8,C<DM,L<CDMivx,X<Miv,D<<vx,V<Xix,v<x,M<vx,i<vx";
    /** By it the first writing of 9950 of two signs is the first behind the first 5000. */
    private static final String FIRST_BEHIND =
        "I9,V9,X9,L9,C9,D9,M7,i9,v8,C<DM,L<CDMivx,X<Miv,D<<vx,V<XLix,v<x,M<vx,i<vx";

    public static void main(String[] args) {
        takenAndGiven();
        worthsOfRows();
        countsOfPlainOnes();
        takingsOnceAndTwice();
        headsAndWhatIsBehind();
        keeping();
        beginning();
        numbersOfWays();
        fiveThousandWays();
        fortyTimes();
        placesInOrder();
        orderOfWritings();
        shortestOfTheFirst();
        signsAtMost();
        writing();
        coversPromises(9, 13);
        report("EdgesOfWritingsTest");
    }

    private static void takenAndGiven() {
        about(0, "A SIGN in it is TAKEN, if the next SIGN behind it that is unlike it is one of a greater number; else GIVEN.");
        due("the last is given", worthOf("VI"), 6);
        due("alone", worthOf("m"), 1000000);
        due("like ones to the end are given", worthOf("XXX"), 30);
        due("like ones ahead of a greater one", worthOf("XXXL"), 20);
        due("like ones ahead of a lesser one", worthOf("LLLX"), 160);
        due("the next unlike one counts, not a later one", worthOf("VIX"), 14);
        due("23 ahead of one", worthOf("I".repeat(23) + "X"), -13);
        due("24 alike", worthOf("I".repeat(24)), 24);
        due("taken ones of taken ones", worthOf("IVX"), 4);
        for (int a = 0; a < 14; a++) {
            for (int b = 0; b < 14; b++) {
                int want = a < b ? WORTH[b] - WORTH[a] : WORTH[a] + WORTH[b];
                due("" + SIGNS.charAt(a) + SIGNS.charAt(b), worthOf("" + SIGNS.charAt(a) + SIGNS.charAt(b)), want);
            }
        }
        about(0, "(Signs are told by number; M and i are unlike, though WORTH as much.)");
        due("Mi", worthOf("Mi"), 0);
        due("iM", worthOf("iM"), 2000);
        due("MMi", worthOf("MMi"), -1000);
        due("CMi: C is taken for M", worthOf("CMi"), -100);
        due("CiM: C is taken for i", worthOf("CiM"), 1900);
    }

    private static void worthsOfRows() {
        about(9, "THE WORTH; -100000001: UNKNOWN.");
        LetterSums x = new LetterSums();
        row(x, 0, "m".repeat(24));
        row(x, 11, "d".repeat(23) + "m");
        due("the greatest", x.worth(0), 24000000);
        due("the least", x.worth(11), -10500000);
        due("I alone", x.worth(1), 1);
        refused("r", x, (y, r) -> y.worth(r), -100000001, LEAST, -1, 12, GREATEST);
    }

    private static void countsOfPlainOnes() {
        about(0, "of like HEADS PLAIN ones come first, at most as many as COUNT tells, then one TAKING at most");
        for (int sign = 0; sign < 14; sign++) {
            for (int count = 0; count <= 9; count++) {
                String s = SIGNS.substring(sign, sign + 1);
                String other = sign == 0 ? "V" : "I";
                LetterSums x = customs(count == 0 ? other + "1" : s + count);
                for (int number = 1; number <= 10; number++) {
                    row(x, 0, s.repeat(number));
                    due(number + " " + s + " with a count of " + count, x.keeps(0, 0), number <= count ? 1 : 0);
                    due("they begin one", x.begins(0, 0), Math.min(number, count));
                }
            }
        }
        String[] counts = {"I<X", "I<X,X1", "I<X,X2", "I<X,X3"};
        for (int count = 0; count <= 3; count++) {
            due("as many, then a taking", keeps(counts[count], "X".repeat(count) + "IX"), 1);
            due("one more, then a taking", keeps(counts[count], "X".repeat(count + 1) + "IX"), 0);
            due("plain ones behind the taking", keeps(counts[count], "IXX"), 0);
        }
        String both = "I<X,V<X,X1,V1,I1,I<<X";
        for (String text : new String[] {"IXIX", "VXIX", "IXVX", "XIXIX", "VXIIX", "IIXIX"}) {
            due("two takings: " + text, keeps(both, text), 0);
        }
        for (String text : new String[] {"IX", "VX", "XIX", "XVX", "VXI", "IIX", "XIIX"}) {
            due("one taking: " + text, keeps(both, text), 1);
        }
    }

    private static void takingsOnceAndTwice() {
        about(0, "or A TAKING of a from b: a b (ONCE), a a b (TWICE), as it MAY be");
        String[] customs = {"I<X", "I<<X", "I<X,I<<X", "I<V,I9,X9"};
        int[][] want = {{1, 0, 0}, {0, 1, 0}, {1, 1, 0}, {0, 0, 0}};
        for (int k = 0; k < customs.length; k++) {
            for (int number = 1; number <= 3; number++) {
                due(number + " I from X by " + customs[k], keeps(customs[k], "I".repeat(number) + "X"), want[k][number - 1]);
            }
        }
        due("a plain one is no taking's beginning", keeps("I9,I<X", "IIX"), 0);
        due("a taking's a is no plain one", keeps("I<X", "I"), 0);
        due("two of them neither", keeps("I<<X", "II"), 0);
    }

    private static void headsAndWhatIsBehind() {
        about(0, "HEADS never grow by number");
        String all = "I1,V1,X1,L1,C1,D1,M1,i1,v1,x1,l1,c1,d1,m1";
        for (int a = 0; a < 14; a++) {
            for (int b = 0; b < 14; b++) {
                due("" + SIGNS.charAt(a) + SIGNS.charAt(b), keeps(all, "" + SIGNS.charAt(a) + SIGNS.charAt(b)), a > b ? 1 : 0);
            }
        }
        due("all of them", keeps(all, "mdclxviMDCLXVI"), 1);
        about(0, "behind a TAKING of a all SIGNS are of less number than a");
        String rules = "I2,V2,X2,L2,C2,X<CL,V<XL,I<VX,I<<X";
        String[] good = {"XCV", "XCI", "XCVI", "XCIV", "VLI", "XLIV", "XLVV", "VXI", "IX", "CXC", "CXCIV"};
        String[] bad = {"XCX", "XCL", "XCVX", "XCIX", "XCXL", "VLV", "VLX", "VLIV", "IXI", "IVI", "VXV", "IIXI", "IXIV"};
        for (String text : good) {
            due(text, keeps(rules, text), 1);
        }
        for (String text : bad) {
            due(text, keeps(rules, text), 0);
        }
    }

    private static void keeping() {
        about(10, "Whether a ROW is a WRITING: 1, 0. UNKNOWN: r, k.");
        LetterSums x = customs("I1", "I9,V9,X6", "i1,M1", "V1");
        due("the first row, the first custom", x.keeps(0, 0), 1);
        row(x, 11, "XXXXXX" + "V".repeat(9) + "I".repeat(9));
        due("the last row, 24 signs", x.keeps(11, 1), 1);
        row(x, 11, "XXXXX" + "V".repeat(9) + "I".repeat(10));
        due("24 signs, the last one too many", x.keeps(11, 1), 0);
        row(x, 2, "iM");
        row(x, 3, "Mi");
        due("i ahead of M", x.keeps(2, 2), 1);
        due("M ahead of i", x.keeps(3, 2), 0);
        refused("r", x, (y, r) -> y.keeps(r, 0), UNKNOWN, LEAST, -1, 12, GREATEST);
        refused("k", x, (y, k) -> y.keeps(0, k), UNKNOWN, LEAST, -1, 4, 6, GREATEST);
        LetterSums none = new LetterSums();
        refused("no customs", none, (y, k) -> y.keeps(0, k), UNKNOWN, -1, 0);
    }

    private static void beginning() {
        about(11, "How many SIGNS from the front are the beginning of some WRITING (of any length). UNKNOWN: r, k.");
        due("none", begins("V1", "I"), 0);
        due("one of one", begins("V1", "V"), 1);
        due("all 24", begins("I9,V9,X6", "XXXXXX" + "V".repeat(9) + "I".repeat(9)), 24);
        due("all but the last of 24", begins("I9,V9,X5", "XXXXX" + "V".repeat(9) + "I".repeat(10)), 23);
        String most = "m".repeat(9) + "d".repeat(9);
        due("the 24th begins a taking once", begins("m9,d9,c5,I<X", most + "cccccI"), 24);
        due("the 24th begins a taking twice", begins("m9,d9,c5,I<<X", most + "cccccI"), 24);
        due("the last two begin a taking twice", begins("m9,d9,c4,I<<X", most + "ccccII"), 24);
        due("two do not begin a taking once", begins("m9,d9,c4,I<X", most + "ccccII"), 23);
        due("a taking from a head above: too late", begins("V1,I<X", "VI"), 1);
        due("from a head just alike", begins("V1,I<V", "VI"), 2);
        due("behind a taking of X: V", begins("X<C,V<X,V1", "XCV"), 3);
        due("behind a taking of X: X", begins("X<C,V<X,X1", "XCX"), 2);
        due("behind a taking of X: V, which may be taken from X alone", begins("X<C,V<X", "XCV"), 2);
        due("behind a good beginning nothing counts", begins("I1,V1", "VXI"), 1);
        LetterSums x = customs("I1", "I2");
        due("the first row and custom", x.begins(0, 0), 1);
        due("the last ones", x.begins(11, 1), 1);
        refused("r", x, (y, r) -> y.begins(r, 0), UNKNOWN, LEAST, -1, 12, GREATEST);
        refused("k", x, (y, k) -> y.begins(0, k), UNKNOWN, LEAST, -1, 2, 6, GREATEST);
    }

    private static void numbersOfWays() {
        about(12, "How many WRITINGS of n (1 to 9999999) there are of 24 SIGNS at most; 5000: so many or more. "
            + "UNKNOWN: k; OUTSIDE: n");
        LetterSums x = customs("I1", "m9,d1,c4,l1,x4,v1,I<m,v<x", "V9");
        due("least", x.ways(0, 1), 1);
        due("no writing", x.ways(0, 2), 0);
        due("greatest, which has none", x.ways(0, 9999999), 0);
        due("greatest, nine m and Im", x.ways(1, 9999999), 1);
        due("it is written", x.write(0, 1, 9999999, 0), 11);
        same(x, 0, "mmmmmmmmmIm");
        due("nine V", x.ways(2, 45), 1);
        due("ten V", x.ways(2, 50), 0);
        due("how often", x.count(4), 7);
        refused("n", x, (y, n) -> y.ways(0, n), OUTSIDE, LEAST, -1, 0, 10000000, GREATEST);
        refused("k", x, (y, k) -> y.ways(k, 1), UNKNOWN, LEAST, -1, 3, 6, GREATEST);
        refused("UNKNOWN ahead of OUTSIDE", x, (y, k) -> y.ways(k, 0), UNKNOWN, -1, 3);
        due("refused ones are not done", x.count(4), 7);
        LetterSums none = new LetterSums();
        refused("no customs", none, (y, k) -> y.ways(k, 1), UNKNOWN, -1, 0);
    }

    private static void fiveThousandWays() {
        about(12, "5000: so many or more");
        LetterSums x = customs(MANY);
        due("4999", x.ways(0, 19565), 4999);
        due("5000", x.ways(0, 20155), 5000);
        due("5001", x.ways(0, 31120), 5000);
        about(13, "ROW r becomes the i-th (from 0, to 4999) WRITING of n of 24 SIGNS at most by ORDER");
        due("the last of 4999", x.write(0, 0, 19565, 4998) > 0 ? 1 : 0, 1);
        due("its worth", x.worth(0), 19565);
        due("it is a writing", x.keeps(0, 0), 1);
        due("one behind it", x.write(0, 0, 19565, 4999), 0);
        due("the row stays", x.worth(0), 19565);
        due("the last of 5000", x.write(1, 0, 20155, 4999) > 0 ? 1 : 0, 1);
        due("its worth", x.worth(1), 20155);
        due("it is a writing", x.keeps(1, 0), 1);
        due("one behind it", x.write(1, 0, 20155, 5000), 0);
        due("the last but one of 5001", x.write(2, 0, 31120, 4999) > 0 ? 1 : 0, 1);
        due("its worth", x.worth(2), 31120);
        due("it is a writing", x.keeps(2, 0), 1);
        long before = x.digest() - x.count(4) * 31L * 31L;
        due("the last of 5001 is beyond 4999", x.write(2, 0, 31120, 5000), 0);
        due("the greatest i", x.write(2, 0, 31120, GREATEST), 0);
        due("nothing but how often is changed", x.digest() - x.count(4) * 31L * 31L == before ? 1 : 0, 1);
    }

    private static void fortyTimes() {
        about(12, "STATE: it was done 40 times ever (it counts on, whatever is read) with write()");
        LetterSums x = customs("I3");
        for (int i = 0; i < 39; i++) {
            if (i % 2 == 0) {
                due("ways", x.ways(0, 1 + i), i <= 2 ? 1 : 0);
            } else {
                due("write", x.write(0, 0, 2, i % 3 == 0 ? 0 : NONE), 2);
            }
            due("how often", x.count(4), i + 1);
            x.ways(0, 0);
            x.write(12, 0, 1, 0);
        }
        custom(x, "V1");
        row(x, 0, "V");
        stone(x, "V");
        due("whatever is read", x.count(4), 39);
        due("the 40th", x.ways(1, 5), 1);
        refused("the 41st", x, x.digest(), x.ways(1, 5), STATE);
        refused("the 41st, write", x, x.digest(), x.write(1, 1, 5, 0), STATE);
        refused("the 41st, write the shortest", x, x.digest(), x.write(1, 1, 5, NONE), STATE);
        refused("the 41st, of a number without writings", x, x.digest(), x.write(1, 1, 6, 0), STATE);
        refused("the 41st, beyond 4999", x, x.digest(), x.write(1, 1, 5, 5000), STATE);
        refused("OUTSIDE ahead of STATE", x, (y, n) -> y.ways(1, n), OUTSIDE, 0, 10000000);
        refused("UNKNOWN ahead of STATE", x, (y, k) -> y.ways(k, 5), UNKNOWN, -1, 2);
        custom(x, "V2");
        refused("a custom read since", x, (y, k) -> y.ways(k, 5), STATE, 0, 2);
        same(x, 1, "I");
    }

    private static void placesInOrder() {
        about(13, "0: there is none (it stays)");
        LetterSums x = customs("V1,I5", "V1");
        row(x, 0, "CC");
        due("first of two", x.write(0, 0, 5, 0), 1);
        same(x, 0, "V");
        due("last of two", x.write(0, 0, 5, 1), 5);
        same(x, 0, "IIIII");
        due("behind the last", x.write(0, 0, 5, 2), 0);
        same(x, 0, "IIIII");
        due("i 4999", x.write(0, 0, 5, 4999), 0);
        due("no writing, first", x.write(0, 1, 4, 0), 0);
        due("no writing, shortest", x.write(0, 1, 4, NONE), 0);
        same(x, 0, "IIIII");
        due("all of these were done", x.count(4), 6);
    }

    private static void orderOfWritings() {
        about(0, "ORDER of WRITINGS: the one comes first that has, for the greatest HEAD at which they differ, more PLAIN ones; "
            + "of like ones the one without A TAKING there, then with one ONCE, then TWICE; of like ones the one with the greater a.");
        inOrder("I9,V2,X2,I<VX,V<X,I<<VX", 15, "XV", "XIIIII", "XVX", "VVIIIII");
        inOrder("I9,X1,V1,I<X,I<<X", 8, "VIII", "IIIIIIII", "IIX");
        inOrder("I9,X1,V1,I<X,I<<X", 19, "XVIIII", "XIIIIIIIII", "XIX");
        // of C: none, once by X, then by V, twice by X, then by V
        inOrder("L1,X4,V9,I9,X<C,V<C,X<<C,V<<C", 90, "LXXXX", "LXXXVV", "LXXXVIIIII", "LXXVVVV", "LXXVVVIIIII",
            "LXVVVVVV", "LXVVVVVIIIII", "LVVVVVVVV", "LVVVVVVVIIIII", "XXXXVVVVVVVVVIIIII", "XC",
            "XXCVV", "XXCVIIIII", "VVC");
        inOrder("V9,I9,X<C,V<C,X<<C,V<<C", 95, "XCV", "XCIIIII", "VC", "XXCVVV", "XXCVVIIIII", "VVCIIIII");
    }

    private static void inOrder(String rules, int n, String... texts) {
        LetterSums x = customs(rules);
        int shortest = 0;
        int number = x.ways(0, n);
        for (int i = 0; i < texts.length; i++) {
            if (texts[i].length() < texts[shortest].length()) {
                shortest = i;
            }
        }
        due("ways of " + n + " by " + rules, number, texts.length);
        for (int i = 0; i < texts.length; i++) {
            due(n + " by " + rules + ", " + i, x.write(0, 0, n, i), texts[i].length());
            same(x, 0, texts[i]);
        }
        due("behind the last", x.write(0, 0, n, texts.length), 0);
        due("the shortest", x.write(0, 0, n, NONE), texts[shortest].length());
        same(x, 0, texts[shortest]);
    }

    private static void shortestOfTheFirst() {
        about(13, "or (i is NONE) the shortest of these first 5000, of like ones the first");
        LetterSums x = customs(LAST_OF_THEM, FIRST_BEHIND, "X9,V9,I9,V<X,I<V,I<X");
        due("the last of them is the shortest", x.write(0, 0, 9600, NONE), 4);
        due("it is the last", x.write(1, 0, 9600, 4999), 4);
        for (int i = 0; i < 4; i++) {
            due("alike", x.sign(0, i), x.sign(1, i));
        }
        due("Lx is behind them", x.write(2, 1, 9950, NONE) > 2 ? 1 : 0, 1);
        int shortest = x.write(2, 1, 9950, NONE);
        for (int i = 4990; i < 5000; i++) {
            due("none of the first is shorter", x.write(3, 1, 9950, i) >= shortest ? 1 : 0, 1);
        }
        due("of like ones the first", x.write(4, 2, 14, NONE), 3);
        same(x, 4, "XIV");
        due("it alone", x.write(4, 2, 1, NONE), 1);
        same(x, 4, "I");
    }

    private static void signsAtMost() {
        about(13, "of 24 SIGNS at most");
        LetterSums x = customs("I9,V9,X9", "L3,X9,V9,I<<V", "L4,X9,V9,I<<V");
        due("24 signs", x.ways(0, 141), 1);
        due("24 signs written", x.write(0, 0, 141, 0), 24);
        same(x, 0, "X".repeat(9) + "V".repeat(9) + "I".repeat(6));
        due("25 signs", x.ways(0, 142), 0);
        due("25 signs are not written", x.write(0, 0, 142, 0), 0);
        due("nor is the shortest of none", x.write(0, 0, 142, NONE), 0);
        due("24 signs, the last three a taking", x.write(0, 1, 288, NONE), 24);
        same(x, 0, "LLL" + "X".repeat(9) + "V".repeat(9) + "IIV");
        due("25 signs, the last three a taking", x.ways(2, 338), 0);
        due("they are not written", x.write(0, 2, 338, NONE), 0);
        due("the row stays", x.sign(0, 23), 1);
    }

    private static void writing() {
        about(13, "UNKNOWN: r, k; OUTSIDE: n, i below NONE; STATE.");
        LetterSums x = customs("I3", "I4");
        due("the first row and custom", x.write(0, 0, 3, 0), 3);
        due("the last ones", x.write(11, 1, 4, NONE), 4);
        same(x, 0, "III");
        same(x, 11, "IIII");
        due("n of the greatest", x.write(0, 0, 9999999, 0), 0);
        due("n of the least", x.write(0, 0, 1, 0), 1);
        refused("r", x, (y, r) -> y.write(r, 0, 1, 0), UNKNOWN, LEAST, -1, 12, GREATEST);
        refused("k", x, (y, k) -> y.write(0, k, 1, 0), UNKNOWN, LEAST, -1, 2, 6, GREATEST);
        refused("n", x, (y, n) -> y.write(0, 0, n, 0), OUTSIDE, LEAST, -1, 0, 10000000, GREATEST);
        refused("i", x, (y, i) -> y.write(0, 0, 1, i), OUTSIDE, LEAST, -3, -2);
        refused("r ahead of OUTSIDE", x, (y, r) -> y.write(r, 0, 0, -2), UNKNOWN, -1, 12);
        refused("k ahead of OUTSIDE", x, (y, k) -> y.write(0, k, 0, -2), UNKNOWN, -1, 2);
        due("refused ones are not done", x.count(4), 4);
        for (int i = 4; i < 40; i++) {
            due("write", x.write(i % 12, 0, 1, 0), 1);
        }
        refused("the 41st", x, (y, i) -> y.write(0, 0, 2, i), STATE, -1, 0, 4999, 5000);
        refused("ways then", x, (y, n) -> y.ways(0, n), STATE, 1, 9999999);
        refused("OUTSIDE ahead of STATE: i", x, (y, i) -> y.write(0, 0, 2, i), OUTSIDE, -2);
        refused("OUTSIDE ahead of STATE: n", x, (y, n) -> y.write(0, 0, n, 0), OUTSIDE, 0, 10000000);
        refused("UNKNOWN ahead of STATE", x, (y, r) -> y.write(r, 0, 1, 0), UNKNOWN, -1, 12);
    }
}
