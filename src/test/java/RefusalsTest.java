/** Refusals: of several the first as told by each call, and that none changes anything, on laden and on new objects. */
public final class RefusalsTest extends Bench {
    private static final String SENTENCE = "Refusals, of several the first as told by each call: UNKNOWN (a number names nothing), "
        + "OUTSIDE (it is not as told), STATE (as told), FULL; they change nothing.";
    private static final int UNKNOWN_WORTH = -100000001;

    /** A call with all its numbers told, and what it is refused with. */
    private record Refused(String name, Call call, int want) {
    }

    public static void main(String[] args) {
        about(0, SENTENCE);
        onTheLadenOne();
        onTheNewOne();
        twinsStayAlike();
        calledOnAndOn();
        report("RefusalsTest");
    }

    private static Refused of(String name, int want, Call call) {
        return new Refused(name, call, want);
    }

    /** All is full: page, customs, columns, what may be done, the first mason, lines; rows 2 and 3 fit no board. */
    private static LetterSums laden() {
        LetterSums x = customs("I3,V1", "I4", "V2", "X3,I<X", "X1", "C9,X<C");
        pourSome(x, 2, 1, true);
        pourSome(x, 0, 1, false);
        x.settle();
        x.sweep();
        for (int sign = 0; sign < 3; sign++) {
            pourSome(x, sign, 99, true);
        }
        row(x, 2, "iI");
        row(x, 3, "XXMV");
        row(x, 4, "XX");
        for (int i = 0; i < 40; i++) {
            x.ways(0, 3);
        }
        stone(x, "X..*");
        for (int i = 0; i < 30; i++) {
            x.could(3);
        }
        for (int i = 0; i < 30; i++) {
            x.note(0, 4);
        }
        for (int i = 0; i < 20; i++) {
            x.line(4, 3);
        }
        return page(x, "A".repeat(80));
    }

    /** Each with all the later refusals that fit as well. */
    private static Refused[] refusedWhenLaden() {
        return new Refused[] {
            of("letters: a byte above 126", OUTSIDE, (x, n) -> x.letters(127)),
            of("letters: behind a 0", OUTSIDE, (x, n) -> x.letters('I' << 8)),
            of("letters: above 80", FULL, (x, n) -> x.letters('I')),
            of("custom: none, and there are 6", STATE, (x, n) -> x.custom()),
            of("asks: k, sign, what", UNKNOWN, (x, n) -> x.asks(6, 14, 3)),
            of("asks: sign, what", UNKNOWN, (x, n) -> x.asks(5, 14, 3)),
            of("asks: k, what", UNKNOWN, (x, n) -> x.asks(6, 13, 3)),
            of("asks: what", OUTSIDE, (x, n) -> x.asks(5, 13, 3)),
            of("row: r, none", UNKNOWN, (x, n) -> x.row(12)),
            of("row: none", STATE, (x, n) -> x.row(11)),
            of("sign: r", UNKNOWN, (x, n) -> x.sign(12, -1)),
            of("worth: r", UNKNOWN_WORTH, (x, n) -> x.worth(12)),
            of("keeps: r, k", UNKNOWN, (x, n) -> x.keeps(12, 6)),
            of("keeps: r", UNKNOWN, (x, n) -> x.keeps(-1, 5)),
            of("keeps: k", UNKNOWN, (x, n) -> x.keeps(11, -1)),
            of("begins: r, k", UNKNOWN, (x, n) -> x.begins(12, 6)),
            of("begins: r", UNKNOWN, (x, n) -> x.begins(-1, 5)),
            of("begins: k", UNKNOWN, (x, n) -> x.begins(11, -1)),
            of("ways: k, n, 40", UNKNOWN, (x, n) -> x.ways(6, 0)),
            of("ways: n, 40", OUTSIDE, (x, n) -> x.ways(5, 10000000)),
            of("ways: 40", STATE, (x, n) -> x.ways(5, 1)),
            of("write: r, k, n, i, 40", UNKNOWN, (x, n) -> x.write(12, 6, 0, -2)),
            of("write: r, n, i, 40", UNKNOWN, (x, n) -> x.write(12, 5, 0, -2)),
            of("write: k, n, i, 40", UNKNOWN, (x, n) -> x.write(11, 6, 0, -2)),
            of("write: n, i, 40", OUTSIDE, (x, n) -> x.write(11, 5, 0, -2)),
            of("write: n, 40", OUTSIDE, (x, n) -> x.write(11, 5, 10000000, NONE)),
            of("write: i, 40", OUTSIDE, (x, n) -> x.write(11, 5, 1, -2)),
            of("write: 40", STATE, (x, n) -> x.write(11, 5, 100, 0)),
            of("write: 40, beyond 4999", STATE, (x, n) -> x.write(11, 5, 100, 5000)),
            of("board: sign, side", UNKNOWN, (x, n) -> x.board(7, 2)),
            of("board: side", OUTSIDE, (x, n) -> x.board(6, 2)),
            of("pour: r", UNKNOWN, (x, n) -> x.pour(12, true)),
            of("pour: a sign above 6, too much", OUTSIDE, (x, n) -> x.pour(2, true)),
            of("pour: too much", FULL, (x, n) -> x.pour(3, false)),
            of("pour: too much by the last", FULL, (x, n) -> x.pour(4, true)),
            of("bundle: sign", UNKNOWN, (x, n) -> x.bundle(6)),
            of("bundle: too few", STATE, (x, n) -> x.bundle(3)),
            of("bundle: too much", FULL, (x, n) -> x.bundle(0)),
            of("unbundle: sign", UNKNOWN, (x, n) -> x.unbundle(0)),
            of("unbundle: none, too much", STATE, (x, n) -> x.unbundle(3)),
            of("unbundle: too much", FULL, (x, n) -> x.unbundle(1)),
            of("lift: r, more than 24", UNKNOWN, (x, n) -> x.lift(12)),
            of("lift: more than 24", STATE, (x, n) -> x.lift(11)),
            of("times: a, b, what", OUTSIDE, (x, n) -> x.times(0, 10000, 2)),
            of("parts: a, b, what", OUTSIDE, (x, n) -> x.parts(-1, 0, 4)),
            of("stone: none", STATE, (x, n) -> x.stone()),
            of("could: k, 30", UNKNOWN, (x, n) -> x.could(6)),
            of("could: 30", STATE, (x, n) -> x.could(5)),
            of("says: k, 30", UNKNOWN, (x, n) -> x.says(6, -1)),
            of("says: 30", STATE, (x, n) -> x.says(5, -1)),
            of("sure: k, place, 30", UNKNOWN, (x, n) -> x.sure(6, 20)),
            of("sure: place, 30", OUTSIDE, (x, n) -> x.sure(5, 20)),
            of("sure: 30", STATE, (x, n) -> x.sure(5, 19)),
            of("note: m, r", UNKNOWN, (x, n) -> x.note(6, 12)),
            of("note: r, 30", UNKNOWN, (x, n) -> x.note(0, 12)),
            of("note: m", UNKNOWN, (x, n) -> x.note(6, 0)),
            of("note: 30", FULL, (x, n) -> x.note(0, 11)),
            of("habit: m", UNKNOWN, (x, n) -> x.habit(6)),
            of("hands: r", UNKNOWN, (x, n) -> x.hands(12)),
            of("line: a, t, 20", UNKNOWN, (x, n) -> x.line(12, -1)),
            of("line: a, 20", UNKNOWN, (x, n) -> x.line(12, 0)),
            of("line: t, 20", UNKNOWN, (x, n) -> x.line(0, 12)),
            of("line: 20", FULL, (x, n) -> x.line(0, 11)),
            of("slip: what", OUTSIDE, (x, n) -> x.slip(4)),
            of("count: what", OUTSIDE, (x, n) -> x.count(7)),
        };
    }

    private static void onTheLadenOne() {
        for (Refused one : refusedWhenLaden()) {
            LetterSums x = laden();
            refused(one.name, x, x.digest(), one.call.of(x, 0), one.want);
        }
        LetterSums x = laden();
        page(x, "I3");
        refused("custom: there are 6", x, x.digest(), x.custom(), FULL);
        refused("row: none, for its 3", x, x.digest(), x.row(0), STATE);
        page(x, "II");
        refused("row: r, of a page that is one", x, x.digest(), x.row(-1), UNKNOWN);
    }

    private static void onTheNewOne() {
        Refused[] all = {
            of("custom", STATE, (x, n) -> x.custom()), of("asks", UNKNOWN, (x, n) -> x.asks(0, 0, 0)),
            of("row", STATE, (x, n) -> x.row(0)), of("keeps", UNKNOWN, (x, n) -> x.keeps(0, 0)),
            of("begins", UNKNOWN, (x, n) -> x.begins(0, 0)), of("ways", UNKNOWN, (x, n) -> x.ways(0, 1)),
            of("write", UNKNOWN, (x, n) -> x.write(0, 0, 1, 0)), of("bundle", STATE, (x, n) -> x.bundle(0)),
            of("unbundle", STATE, (x, n) -> x.unbundle(6)), of("lift", STATE, (x, n) -> x.lift(0)),
            of("stone", STATE, (x, n) -> x.stone()), of("could", UNKNOWN, (x, n) -> x.could(0)),
            of("says", UNKNOWN, (x, n) -> x.says(0, 0)), of("sure", UNKNOWN, (x, n) -> x.sure(0, 20)),
        };
        for (Refused one : all) {
            LetterSums x = new LetterSums();
            refused(one.name, x, x.digest(), one.call.of(x, 0), one.want);
        }
    }

    /** What the digest does not tell: steps, rows that are noted, rows of lines. */
    private static long[] told(LetterSums x) {
        long[] all = new long[60];
        int n = 0;
        for (int i = 0; i < 40; i++) {
            all[n++] = x.step(i);
        }
        for (int what = 0; what <= 3; what++) {
            all[n++] = x.slip(what);
        }
        all[n++] = x.wrong();
        all[n++] = x.mended();
        for (int r = 0; r < 5; r++) {
            all[n++] = x.hands(r);
        }
        all[n++] = x.good();
        x.blank();
        all[n++] = x.tear();
        all[n++] = x.sweep();
        x.note(1, 4);
        all[n++] = x.habit(0);
        all[n++] = x.habit(1);
        all[n++] = x.digest();
        return all;
    }

    private static void twinsStayAlike() {
        LetterSums x = laden();
        LetterSums twin = laden();
        for (Refused one : refusedWhenLaden()) {
            one.call.of(x, 0);
        }
        long[] got = told(x);
        long[] want = told(twin);
        for (int i = 0; i < got.length; i++) {
            due("the twin's answer " + i, got[i], want[i]);
        }
        // a mason's rows, and a page, that a refused call would have spoilt are seen by a custom that is read later
        LetterSums y = customs("I3,V1");
        row(y, 0, "II");
        row(y, 1, "V");
        for (int i = 0; i < 30; i++) {
            y.note(0, 0);
        }
        due("a 31st row", y.note(0, 1), FULL);
        due("row 12", y.note(1, 12), UNKNOWN);
        page(y, "I2");
        due("no row", y.row(0), STATE);
        due("no stone", y.stone(), STATE);
        due("a 0 between", y.letters(0x490049), OUTSIDE);
        due("the page is as it was", y.custom(), 1);
        due("so are the noted rows", y.habit(0), 3);
        due("and those of the next mason: none", y.habit(1), 3);
    }

    /** What an object answers behind its 512th call is free, but it must not throw. */
    private static void calledOnAndOn() {
        LetterSums x = laden();
        Refused[] all = refusedWhenLaden();
        for (int i = 0; i < 2000; i++) {
            all[i % all.length].call.of(x, 0);
            x.settle();
            x.blank();
            x.letters(packed("IIIXV"));
            x.row(i % 12);
            x.pour(i % 12, i % 3 == 0);
            x.stone();
            x.line(i % 12, (i + 1) % 12);
            x.slip(i % 4);
            x.digest();
        }
        due("it has not thrown", 1, 1);
    }
}
