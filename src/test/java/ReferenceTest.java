import java.util.Random;

/** Random runs of calls, each answer held against Plain's. */
public final class ReferenceTest {
    private static final int CALLS = 512;
    private static final String[] KNOWN_CUSTOMS = {
        "M9,D1,C3,L1,X3,V1,I3,I<VX,X<LC,C<DM", "M9,D1,C4,L1,X4,V1,I4,I<<X",
        "i9,v9,x9,l9,c9,d9,m9,M9,i<vx,I9", "I9,V9,X9,L9,C9,D9,M9,i9,v9,x9,l9,c9,d9,m9",
        "I3,X3,C3,M3,x3,c3,m3,I<VX,V<XL,I<<XLCDM,X<LC,X<<CM,C<DM,M<vx,M<<vx,x<lc,c<dm",
        "I<VXLCDMivxlcdm,V<<LCDMivxlcdm,X<LCDM,L<<CDM,C<DMivx,D<<vxlcdm,M<vxl,i<vx,v<<lc,x<lcdm,c<<m",
        "V2,I1,I<V,I<<V,L2,X<L,X1", "I9,V9,X9,L9,C9,D9,M9,I<VXLCDM,X<LCDM,V<XLCDM,I<<VXLCDM,C<DM,L<CDM", "m9,d<m,c<<m,M9,i9,I9,X9,V1"};

    private static long calls = 0;
    private static int wrong = 0;

    private final Random random;
    private final long seed;
    private final LetterSums real = new LetterSums();
    private final Plain plain = new Plain();
    private int left = CALLS;

    private ReferenceTest(long seed) {
        this.seed = seed;
        this.random = new Random(seed);
    }

    public static void main(String[] args) {
        int runs = args.length > 0 ? Integer.parseInt(args[0]) : 300;
        long first = args.length > 1 ? Long.parseLong(args[1]) : 1;
        for (long seed = first; seed < first + runs; seed++) {
            new ReferenceTest(seed).run();
        }
        System.out.println("ReferenceTest: " + calls + " calls, " + wrong + " answers are not as due");
        if (wrong != 0) {
            System.exit(1);
        }
    }

    private void run() {
        // some runs dwell on one part, so that its limits are reached too
        int dwell = random.nextInt(10);
        int often = random.nextInt(5);
        int before = wrong;
        for (int i = random.nextInt(4); i > 0; i--) {
            readCustom();
        }
        while (left > 0 && wrong == before) {
            act(random.nextInt(5) < often ? dwell : random.nextInt(10));
        }
    }

    private void due(String call, long got, long want) {
        calls++;
        left--;
        if (got != want) {
            wrong++;
            System.out.println("seed " + seed + ", call " + (CALLS - left) + ": " + call + " answered " + got + ", due is " + want);
        }
    }

    private int pick(int from, int to) {
        return from + random.nextInt(to - from + 1);
    }

    private int aRow() {
        return random.nextInt(40) == 0 ? pick(-2, 14) : pick(0, 11);
    }

    private int aCustom() {
        return random.nextInt(12) == 0 ? pick(-2, 7) : pick(0, Math.max(0, plain.customs.size() - 1));
    }

    private int aNumber() {
        switch (random.nextInt(12)) {
            case 0: return pick(-1, 1);
            case 1: return pick(9999998, 10000000);
            case 2: return pick(1, 9999999);
            case 3: return pick(1, 99999);
            case 4: return 1000 * pick(1, 9999);
            default: return pick(1, 4999);
        }
    }

    private char aSign() {
        return Plain.SIGNS.charAt(random.nextInt(4) == 0 ? random.nextInt(14) : random.nextInt(7));
    }

    // ---- texts

    private void feed(String text) {
        int i = 0;
        while (i < text.length()) {
            int n = Math.min(text.length() - i, random.nextInt(5) == 0 ? pick(1, 8) : 8);
            long w = 0;
            for (int j = n - 1; j >= 0; j--) {
                w = w << 8 | text.charAt(i + j);
            }
            letters(w);
            i += n;
        }
    }

    private void letters(long w) {
        due("letters(" + w + ")", real.letters(w), plain.letters(w));
    }

    private String customText() {
        if (random.nextInt(3) == 0) {
            return KNOWN_CUSTOMS[random.nextInt(KNOWN_CUSTOMS.length)];
        }
        StringBuilder s = new StringBuilder();
        int rules = pick(1, 20);
        for (int i = 0; i < rules && s.length() < 70; i++) {
            s.append(i == 0 ? "" : ",").append(ruleText());
        }
        if (random.nextInt(6) == 0) {
            s.setCharAt(random.nextInt(s.length()), "IVXm<,190.* ".charAt(random.nextInt(12)));
        }
        return s.toString();
    }

    private String ruleText() {
        int a = Plain.sg(aSign());
        int kind = random.nextInt(4);
        String heads = "";
        for (int b = a; b < 14; b++) {
            boolean fits = Plain.WORTH[b] > (kind == 3 ? 2 : 1) * Plain.WORTH[a];
            if (fits ? random.nextInt(3) == 0 : random.nextInt(60) == 0) {
                heads += Plain.SIGNS.charAt(b);
            }
        }
        if (kind < 2 || heads.isEmpty() && random.nextInt(8) > 0) {
            return "" + Plain.SIGNS.charAt(a) + pick(random.nextInt(60) == 0 ? 0 : random.nextInt(3) == 0 ? 6 : 1, 9);
        }
        return Plain.SIGNS.charAt(a) + (kind == 3 ? "<<" : "<") + heads;
    }

    private String rowText(int most) {
        if (random.nextInt(3) == 0) {
            String s = plain.rows[random.nextInt(12)];
            return spoiled(s.substring(0, Math.min(most, s.length())));
        }
        StringBuilder s = new StringBuilder();
        int head = 13;
        while (s.length() < most && head >= 0 && random.nextInt(9) > 0) {
            head = Math.max(0, head - random.nextInt(4));
            s.append(String.valueOf(Plain.SIGNS.charAt(head)).repeat(random.nextInt(4)));
            if (head > 0 && random.nextInt(3) == 0) {
                int a = Math.max(0, head - pick(1, 3));
                s.append(String.valueOf(Plain.SIGNS.charAt(a)).repeat(pick(1, 2))).append(Plain.SIGNS.charAt(head));
                head = a - 1;
            }
        }
        s.append(s.length() == 0 ? "V" : "");
        return spoiled(s.substring(0, Math.min(most, s.length())));
    }

    private String spoiled(String s) {
        if (random.nextInt(3) > 0) {
            return s;
        }
        int at = random.nextInt(s.length());
        return s.substring(0, at) + (random.nextInt(20) == 0 ? "?" : aSign()) + s.substring(Math.min(s.length(), at + random.nextInt(2)));
    }

    private String stoneText() {
        StringBuilder s = new StringBuilder(rowText(random.nextInt(25) == 0 ? 22 : pick(1, 20)));
        int gaps = random.nextInt(20) == 0 ? 4 : random.nextInt(3) == 0 ? 3 : pick(0, 2);
        for (int i = 0; i < gaps; i++) {
            int at = random.nextInt(s.length());
            if (random.nextBoolean() || s.length() >= 20) {
                s.setCharAt(at, '.');
            } else {
                s.insert(at, '.');
            }
        }
        return s + (random.nextInt(3) == 0 ? "*" : "") + (random.nextInt(30) == 0 ? "*" : "");
    }

    private void emptyPage() {
        if (!plain.page.isEmpty() && random.nextInt(12) > 0) {
            due("blank()", real.blank(), plain.blank());
        }
    }

    private void readCustom() {
        emptyPage();
        feed(customText());
        due("good()", real.good(), plain.good());
        due("custom()", real.custom(), plain.custom());
    }

    private void readRow() {
        emptyPage();
        feed(rowText(random.nextInt(20) == 0 ? 26 : 24));
        int r = aRow();
        due("row(" + r + ")", real.row(r), plain.row(r));
    }

    private void readStone() {
        emptyPage();
        feed(stoneText());
        due("stone()", real.stone(), plain.stone());
    }

    // ---- acts

    private void act(int part) {
        switch (part) {
            case 0: pageAct(); break;
            case 1: rowAct(); break;
            case 2: writeAct(); break;
            case 3: boardAct(); break;
            case 4: settleAct(); break;
            case 5: tableAct(); break;
            case 6: stoneAct(); break;
            case 7: masonAct(); break;
            case 8: accountAct(); break;
            default: toldAct(); break;
        }
    }

    private void pageAct() {
        switch (random.nextInt(8)) {
            case 0: letters(random.nextLong()); break;
            case 1: letters(random.nextLong() & 0x7f7f7f7f7f7f7f7fL); break;
            case 2: letters(random.nextLong() & 0x7f7f7f7fL); break;
            case 3: letters(random.nextLong() & 0x7f007f7fL); break;
            case 4: feed(customText()); due("good()", real.good(), plain.good()); break;
            case 5: emptyPage(); break;
            default: readCustom(); break;
        }
    }

    private void rowAct() {
        int r = aRow();
        int k = aCustom();
        int i = pick(-2, 25);
        switch (random.nextInt(6)) {
            case 0: due("sign(" + r + ", " + i + ")", real.sign(r, i), plain.sign(r, i)); break;
            case 1: due("worth(" + r + ")", real.worth(r), plain.worth(r)); break;
            case 2: due("keeps(" + r + ", " + k + ")", real.keeps(r, k), plain.keeps(r, k)); break;
            case 3: due("begins(" + r + ", " + k + ")", real.begins(r, k), plain.begins(r, k)); break;
            case 4:
                int sign = pick(-1, 14);
                int what = pick(random.nextInt(10) == 0 ? -1 : 0, random.nextInt(10) == 0 ? 3 : 2);
                due("asks(" + k + ", " + sign + ", " + what + ")", real.asks(k, sign, what), plain.asks(k, sign, what));
                break;
            default: readRow(); break;
        }
    }

    private void writeAct() {
        int k = aCustom();
        int n = aNumber();
        int r = aRow();
        int i = random.nextInt(3) == 0 ? pick(-3, 5002) : random.nextBoolean() ? -1 : pick(0, 9);
        if (random.nextBoolean()) {
            due("ways(" + k + ", " + n + ")", real.ways(k, n), plain.ways(k, n));
        } else {
            due("write(" + r + ", " + k + ", " + n + ", " + i + ")", real.write(r, k, n, i), plain.write(r, k, n, i));
            due("digest()", real.digest(), plain.digest());
        }
    }

    private void boardAct() {
        int r = aRow();
        int sign = pick(-1, 7);
        int side = pick(random.nextInt(10) == 0 ? -1 : 0, random.nextInt(10) == 0 ? 2 : 1);
        boolean in = random.nextInt(3) > 0;
        switch (random.nextInt(9)) {
            case 0: due("board(" + sign + ", " + side + ")", real.board(sign, side), plain.board(sign, side)); break;
            case 1: due("bundle(" + sign + ")", real.bundle(sign), plain.bundle(sign)); break;
            case 2: due("unbundle(" + sign + ")", real.unbundle(sign), plain.unbundle(sign)); break;
            case 3: due("holds()", real.holds(), plain.holds()); break;
            case 4:
                emptyPage();
                feed(String.valueOf(aSign()).repeat(24 - random.nextInt(3)));
                due("row(" + r + ")", real.row(r), plain.row(r));
                break;
            default: due("pour(" + r + ", " + in + ")", real.pour(r, in), plain.pour(r, in)); break;
        }
    }

    private void settleAct() {
        int r = aRow();
        int i = random.nextBoolean() ? pick(-2, 10) : pick(0, 301);
        switch (random.nextInt(7)) {
            case 0: due("settle()", real.settle(), plain.settle()); break;
            case 1: due("lift(" + r + ")", real.lift(r), plain.lift(r)); break;
            case 2:
                if (random.nextInt(4) == 0) {
                    due("sweep()", real.sweep(), plain.sweep());
                }
                break;
            case 3: boardAct(); break;
            default: due("step(" + i + ")", real.step(i), plain.step(i)); break;
        }
    }

    private void tableAct() {
        int a = random.nextInt(5) == 0 ? pick(-1, 10001) : pick(0, 99);
        int b = random.nextInt(5) == 0 ? pick(-1, 10001) : pick(0, 99);
        int what = random.nextBoolean() ? pick(-1, 4) : pick(0, 52);
        due("times(" + a + ", " + b + ", " + what + ")", real.times(a, b, what), plain.times(a, b, what));
        due("parts(" + a + ", " + b + ", " + what + ")", real.parts(a, b, what), plain.parts(a, b, what));
    }

    private void stoneAct() {
        int k = aCustom();
        int i = random.nextBoolean() ? pick(-1, 5) : pick(0, 400);
        int place = random.nextInt(10) == 0 ? pick(-1, 21) : pick(0, Math.min(19, Math.max(0, plain.places())));
        switch (random.nextInt(5)) {
            case 0: due("could(" + k + ")", real.could(k), plain.could(k)); break;
            case 1: due("says(" + k + ", " + i + ")", real.says(k, i), plain.says(k, i)); break;
            case 2:
            case 3: due("sure(" + k + ", " + place + ")", real.sure(k, place), plain.sure(k, place)); break;
            default: readStone(); break;
        }
    }

    private void masonAct() {
        int m = pick(random.nextInt(10) == 0 ? -1 : 0, random.nextInt(10) == 0 ? 6 : 5);
        int r = aRow();
        switch (random.nextInt(5)) {
            case 0: due("habit(" + m + ")", real.habit(m), plain.habit(m)); break;
            case 1:
            case 2: due("hands(" + r + ")", real.hands(r), plain.hands(r)); break;
            default:
                // a mason that has kept a custom so far mostly keeps it
                int allowed = plain.hands(r);
                if (allowed >= 0 && (allowed >> Math.max(0, m) & 1) == 1 || random.nextInt(4) == 0) {
                    due("note(" + m + ", " + r + ")", real.note(m, r), plain.note(m, r));
                }
                break;
        }
    }

    private void accountAct() {
        int what = pick(random.nextInt(10) == 0 ? -1 : 0, random.nextInt(10) == 0 ? 4 : 3);
        switch (random.nextInt(9)) {
            case 0: due("wrong()", real.wrong(), plain.wrong()); break;
            case 1: due("mended()", real.mended(), plain.mended()); break;
            case 2:
            case 3:
            case 4: due("slip(" + what + ")", real.slip(what), plain.slip(what)); break;
            case 5:
                if (random.nextInt(3) == 0) {
                    due("tear()", real.tear(), plain.tear());
                }
                break;
            default: lineAct(); break;
        }
    }

    /** Often a line that is right or off by one sign, so that slips and mendings are found. */
    private void lineAct() {
        int a = aRow();
        int t = aRow();
        int sum = plain.lines.isEmpty() ? 0 : Plain.worthOf(plain.lines.get(plain.lines.size() - 1)[1]);
        if (random.nextInt(3) == 0) {
            sum = 0;
            for (String[] line : plain.lines) {
                sum += Plain.worthOf(line[0]);
            }
        }
        if (random.nextInt(4) > 0 && !Plain.noRow(a) && !Plain.noRow(t) && a != t) {
            String text = standard(sum + Plain.worthOf(plain.rows[a]));
            if (text.length() > 0 && text.length() <= 24) {
                emptyPage();
                feed(random.nextInt(3) == 0 ? spoiled(text) : text);
                due("row(" + t + ")", real.row(t), plain.row(t));
            }
        }
        due("line(" + a + ", " + t + ")", real.line(a, t), plain.line(a, t));
    }

    private static String standard(int n) {
        StringBuilder s = new StringBuilder();
        int rest = n;
        for (int sign = 13; sign >= 0 && rest > 0 && s.length() <= 24; sign--) {
            while (rest >= Plain.WORTH[sign] && s.length() <= 24) {
                s.append(Plain.SIGNS.charAt(sign));
                rest -= Plain.WORTH[sign];
            }
        }
        return s.toString();
    }

    private void toldAct() {
        int what = pick(-1, 7);
        due("count(" + what + ")", real.count(what), plain.count(what));
        due("digest()", real.digest(), plain.digest());
    }
}
