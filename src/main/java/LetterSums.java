/**
 * Sums in letters: rows of signs, customs of writing them, a counting board, broken stones,
 * masons and accounts. The document's numbered promises say what each call answers.
 */
public final class LetterSums {
    public static final int NONE = -1, UNKNOWN = -101, OUTSIDE = -102, STATE = -103, FULL = -104;

    private static final int UNKNOWN_WORTH = -100000001;
    private static final int SIGNS = 14;
    private static final int ROWS = 12;
    private static final int ROW_SIGNS = 24;
    private static final int CUSTOMS = 6;
    private static final int MASONS = 6;
    private static final int GREATEST_NUMBER = 9999999;
    private static final int GREATEST_FACTOR = 9999;
    private static final int TABLE_LINES = 20;
    private static final int MOST_WRITTEN = 40;
    private static final int MOST_READ = 30;
    private static final String SIGN_LETTERS = "IVXLCDMivxlcdm";
    private static final int[] WORTH = {1, 5, 10, 50, 100, 500, 1000,
        1000, 5000, 10000, 50000, 100000, 500000, 1000000};

    private final Page page = new Page();
    private final Custom[] customs = new Custom[CUSTOMS];
    private final Row[] rows = new Row[ROWS];
    private final Writings writings = new Writings();
    private final Abacus abacus = new Abacus();
    private final Slab slab = new Slab();
    private final Mason[] masons = new Mason[MASONS];
    private final Ledger ledger = new Ledger();
    private int customsRead = 0;
    private int timesWritten = 0;
    private int timesStoneRead = 0;

    public LetterSums() {
        for (int k = 0; k < CUSTOMS; k++) {
            customs[k] = new Custom();
        }
        for (int r = 0; r < ROWS; r++) {
            rows[r] = new Row();
        }
        for (int m = 0; m < MASONS; m++) {
            masons[m] = new Mason();
        }
    }

    // ---- the page

    public int letters(long w) {
        int coming = Page.lettersIn(w);
        if (coming < 0) {
            return OUTSIDE;
        }
        if (page.length + coming > Page.MOST) {
            return FULL;
        }
        page.append(w, coming);
        return page.length;
    }

    public int blank() {
        int had = page.length;
        page.length = 0;
        return had;
    }

    public int good() {
        return Rules.goodLetters(page);
    }

    public int custom() {
        if (!Rules.isWhole(page)) {
            return STATE;
        }
        if (customsRead >= CUSTOMS) {
            return FULL;
        }
        int k = customsRead;
        Rules.read(page, customs[k]);
        customsRead++;
        page.length = 0;
        for (int m = 0; m < MASONS; m++) {
            masons[m].meet(customs[k], k);
        }
        return k;
    }

    public int asks(int k, int sign, int what) {
        if (!isCustom(k) || sign < 0 || sign >= SIGNS) {
            return UNKNOWN;
        }
        switch (what) {
            case 0: return customs[k].counts[sign];
            case 1: return customs[k].once[sign];
            case 2: return customs[k].twice[sign];
            default: return OUTSIDE;
        }
    }

    // ---- rows

    public int row(int r) {
        if (!isRow(r)) {
            return UNKNOWN;
        }
        if (!page.isRowOfSigns()) {
            return STATE;
        }
        page.copySigns(rows[r]);
        page.length = 0;
        return rows[r].length;
    }

    public int sign(int r, int i) {
        if (!isRow(r)) {
            return UNKNOWN;
        }
        return i < 0 || i >= rows[r].length ? NONE : rows[r].signs[i];
    }

    public int worth(int r) {
        return isRow(r) ? rows[r].total() : UNKNOWN_WORTH;
    }

    public int keeps(int r, int k) {
        if (!isRow(r) || !isCustom(k)) {
            return UNKNOWN;
        }
        return customs[k].allows(rows[r]) ? 1 : 0;
    }

    public int begins(int r, int k) {
        if (!isRow(r) || !isCustom(k)) {
            return UNKNOWN;
        }
        return customs[k].goodSigns(rows[r]);
    }

    public int ways(int k, int n) {
        if (!isCustom(k)) {
            return UNKNOWN;
        }
        if (!isNumber(n)) {
            return OUTSIDE;
        }
        if (timesWritten >= MOST_WRITTEN) {
            return STATE;
        }
        timesWritten++;
        writings.prepare(customs[k], k, n);
        return writings.inAll();
    }

    public int write(int r, int k, int n, int i) {
        if (!isRow(r) || !isCustom(k)) {
            return UNKNOWN;
        }
        if (!isNumber(n) || i < NONE) {
            return OUTSIDE;
        }
        if (timesWritten >= MOST_WRITTEN) {
            return STATE;
        }
        timesWritten++;
        writings.prepare(customs[k], k, n);
        boolean found = i == NONE ? writings.findShortest() : writings.findByOrder(i);
        if (!found) {
            return 0;
        }
        rows[r].copy(writings.found);
        return rows[r].length;
    }

    // ---- the board

    public int board(int sign, int side) {
        if (sign < 0 || sign >= Abacus.COLUMNS) {
            return UNKNOWN;
        }
        switch (side) {
            case 0: return abacus.given[sign];
            case 1: return abacus.owed[sign];
            default: return OUTSIDE;
        }
    }

    public int pour(int r, boolean in) {
        if (!isRow(r)) {
            return UNKNOWN;
        }
        if (!Abacus.hasColumns(rows[r])) {
            return OUTSIDE;
        }
        return abacus.addRow(rows[r], in) ? abacus.pebbles() : FULL;
    }

    public int bundle(int sign) {
        if (sign < 0 || sign >= Abacus.COLUMNS - 1) {
            return UNKNOWN;
        }
        if (!abacus.hasBundle(sign)) {
            return STATE;
        }
        return abacus.tieUp(sign) ? abacus.given[sign + 1] : FULL;
    }

    public int unbundle(int sign) {
        if (sign < 1 || sign >= Abacus.COLUMNS) {
            return UNKNOWN;
        }
        if (abacus.given[sign] == 0) {
            return STATE;
        }
        return abacus.untie(sign) ? abacus.given[sign - 1] : FULL;
    }

    public int settle() {
        abacus.settleAll();
        return abacus.stepsDone;
    }

    public int step(int i) {
        return i < 0 || i >= abacus.stepsDone ? NONE : abacus.steps[i];
    }

    public int holds() {
        return abacus.total();
    }

    public int lift(int r) {
        if (!isRow(r)) {
            return UNKNOWN;
        }
        if (!abacus.canBeLifted()) {
            return STATE;
        }
        abacus.copyGiven(rows[r]);
        return rows[r].length;
    }

    public int sweep() {
        int had = abacus.pebbles();
        abacus.clear();
        return had;
    }

    // ---- times, parts

    public int times(int a, int b, int what) {
        if (a < 1 || a > GREATEST_FACTOR || b < 1 || b > GREATEST_FACTOR) {
            return OUTSIDE;
        }
        if (what == 0) {
            return product(a, b);
        }
        if (what == 1) {
            return halvings(a);
        }
        if (what >= 10 && what < 10 + TABLE_LINES) {
            int i = what - 10;
            return i < halvings(a) ? a >> i : NONE;
        }
        if (what >= 30 && what < 30 + TABLE_LINES) {
            int i = what - 30;
            return i < halvings(a) ? b << i : NONE;
        }
        return OUTSIDE;
    }

    public int parts(int a, int b, int what) {
        if (a < 0 || a > GREATEST_FACTOR || b < 1 || b > GREATEST_FACTOR) {
            return OUTSIDE;
        }
        int taken = linesTaken(a, b);
        switch (what) {
            // line i begins with 2 to the i, so the lines' bits are the sum itself
            case 0: return taken;
            case 1: return a - taken * b;
            case 2: return doublings(a, b);
            case 3: return taken;
            default: return OUTSIDE;
        }
    }

    // ---- stones

    public int stone() {
        if (!Slab.isStone(page)) {
            return STATE;
        }
        slab.carve(page);
        page.length = 0;
        return slab.places;
    }

    public int could(int k) {
        if (!isCustom(k)) {
            return UNKNOWN;
        }
        if (!readStone(k)) {
            return STATE;
        }
        return slab.worthsFound;
    }

    public int says(int k, int i) {
        if (!isCustom(k)) {
            return UNKNOWN;
        }
        if (!readStone(k)) {
            return STATE;
        }
        return i < 0 || i >= slab.worthsFound ? NONE : slab.worths[i];
    }

    public int sure(int k, int place) {
        if (!isCustom(k)) {
            return UNKNOWN;
        }
        if (place < 0 || place >= Slab.MOST_PLACES) {
            return OUTSIDE;
        }
        if (!readStone(k)) {
            return STATE;
        }
        return place < slab.places ? slab.common[place] : NONE;
    }

    // ---- masons

    public int note(int m, int r) {
        if (!isMason(m) || !isRow(r)) {
            return UNKNOWN;
        }
        if (masons[m].noted >= Mason.MOST_ROWS) {
            return FULL;
        }
        masons[m].remember(rows[r], customsAllowing(rows[r]));
        return masons[m].noted;
    }

    public int habit(int m) {
        return isMason(m) ? masons[m].customBits : UNKNOWN;
    }

    public int hands(int r) {
        if (!isRow(r)) {
            return UNKNOWN;
        }
        int allowing = customsAllowing(rows[r]);
        int bits = 0;
        for (int m = 0; m < MASONS; m++) {
            if ((masons[m].customBits & allowing) != 0) {
                bits |= 1 << m;
            }
        }
        return bits;
    }

    // ---- accounts

    public int line(int a, int t) {
        if (!isRow(a) || !isRow(t)) {
            return UNKNOWN;
        }
        if (ledger.lines >= Ledger.MOST_LINES) {
            return FULL;
        }
        ledger.append(rows[a], rows[t]);
        return ledger.lines;
    }

    public int tear() {
        int had = ledger.lines;
        ledger.clear();
        return had;
    }

    public int wrong() {
        return ledger.firstWrong();
    }

    public int mended() {
        return ledger.firstMended();
    }

    public int slip(int what) {
        if (what < 0 || what > 3) {
            return OUTSIDE;
        }
        if (!ledger.findSlip()) {
            return NONE;
        }
        switch (what) {
            case 0: return ledger.slipPart;
            case 1: return ledger.slipSort;
            case 2: return ledger.slipPlace;
            default: return ledger.slipSign;
        }
    }

    // ---- what is told

    public int count(int what) {
        switch (what) {
            case 0: return customsRead;
            case 1: return page.length;
            case 2: return slab.places;
            case 3: return ledger.lines;
            case 4: return timesWritten;
            case 5: return timesStoneRead;
            case 6: return abacus.stepsDone;
            default: return OUTSIDE;
        }
    }

    public long digest() {
        long h = 223;
        h = page.digestOn(h);
        for (int k = 0; k < customsRead; k++) {
            h = customs[k].digestOn(h);
        }
        for (int r = 0; r < ROWS; r++) {
            h = rows[r].digestOn(h);
        }
        h = abacus.digestOn(h);
        h = slab.digestOn(h);
        for (int m = 0; m < MASONS; m++) {
            h = mix(mix(h, masons[m].noted), masons[m].customBits);
        }
        h = ledger.digestOn(h);
        h = mix(h, timesWritten);
        h = mix(h, timesStoneRead);
        return mix(h, abacus.stepsDone);
    }

    private static long mix(long h, long number) {
        return 31 * h + number;
    }

    private static boolean isRow(int r) {
        return r >= 0 && r < ROWS;
    }

    private static boolean isMason(int m) {
        return m >= 0 && m < MASONS;
    }

    private static boolean isNumber(int n) {
        return n >= 1 && n <= GREATEST_NUMBER;
    }

    private boolean isCustom(int k) {
        return k >= 0 && k < customsRead;
    }

    private int customsAllowing(Row row) {
        int bits = 0;
        for (int k = 0; k < customsRead; k++) {
            if (customs[k].allows(row)) {
                bits |= 1 << k;
            }
        }
        return bits;
    }

    private boolean readStone(int k) {
        if (slab.places == 0 || timesStoneRead >= MOST_READ) {
            return false;
        }
        timesStoneRead++;
        slab.fillBy(customs[k], k);
        return true;
    }

    private static int halvings(int a) {
        int lines = 0;
        for (int half = a; half > 0; half >>= 1) {
            lines++;
        }
        return lines;
    }

    private static int product(int a, int b) {
        int sum = 0;
        for (int i = 0; i < halvings(a); i++) {
            if ((a >> i & 1) == 1) {
                sum += b << i;
            }
        }
        return sum;
    }

    private static int doublings(int a, int b) {
        int lines = 0;
        while (lines < TABLE_LINES && b << lines <= a) {
            lines++;
        }
        return lines;
    }

    private static int linesTaken(int a, int b) {
        int left = a;
        int bits = 0;
        for (int i = doublings(a, b) - 1; i >= 0; i--) {
            if (b << i <= left) {
                left -= b << i;
                bits |= 1 << i;
            }
        }
        return bits;
    }

    private static int signOf(int letter) {
        return SIGN_LETTERS.indexOf((char) letter);
    }

    /** Letters that wait to be read, as codes. */
    private static final class Page {
        private static final int MOST = 80;
        private static final int GREATEST_CODE = 126;
        private static final int BYTES = 8;

        private final int[] codes = new int[MOST];
        private int length = 0;

        private static int codeAt(long w, int i) {
            return (int) (w >>> (8 * i)) & 255;
        }

        /** How many letters w tells; -1: it is not as told. */
        private static int lettersIn(long w) {
            int number = 0;
            for (int i = 0; i < BYTES; i++) {
                int code = codeAt(w, i);
                if (code > GREATEST_CODE || code != 0 && number < i) {
                    return -1;
                }
                if (code != 0) {
                    number++;
                }
            }
            return number;
        }

        private void append(long w, int coming) {
            for (int i = 0; i < coming && length < MOST; i++) {
                codes[length] = codeAt(w, i);
                length++;
            }
        }

        private boolean isRowOfSigns() {
            if (length < 1 || length > ROW_SIGNS) {
                return false;
            }
            for (int i = 0; i < length; i++) {
                if (signOf(codes[i]) < 0) {
                    return false;
                }
            }
            return true;
        }

        private void copySigns(Row row) {
            row.length = 0;
            for (int i = 0; i < length; i++) {
                row.put(signOf(codes[i]), 1);
            }
        }

        private long digestOn(long h) {
            for (int i = 0; i < length; i++) {
                h = mix(h, codes[i]);
            }
            return h;
        }
    }

    /**
     * The reading of a custom's text, letter by letter. A state is the place in a rule and, from
     * bit 3 on, the sign that the rule is of. Each state but DEAD can still become a custom.
     */
    private static final class Rules {
        private static final int DEAD = -1;
        private static final int START = 0, NAMED = 1, COUNTED = 2, BEHIND_ONE = 3, BEHIND_TWO = 4,
            ONCE = 5, TWICE = 6;
        private static final int PLACE_MASK = 7, SIGN_SHIFT = 3;

        private static int goodLetters(Page page) {
            int state = START;
            for (int i = 0; i < page.length; i++) {
                state = after(state, page.codes[i]);
                if (state == DEAD) {
                    return i;
                }
            }
            return page.length;
        }

        private static boolean isWhole(Page page) {
            int state = START;
            for (int i = 0; i < page.length && state != DEAD; i++) {
                state = after(state, page.codes[i]);
            }
            return state != DEAD && endsRule(state & PLACE_MASK);
        }

        private static void read(Page page, Custom custom) {
            int state = START;
            for (int i = 0; i < page.length && state != DEAD; i++) {
                state = after(state, page.codes[i]);
                if (state != DEAD) {
                    keep(state, page.codes[i], custom);
                }
            }
        }

        private static void keep(int state, int letter, Custom custom) {
            int sign = state >> SIGN_SHIFT;
            switch (state & PLACE_MASK) {
                case COUNTED:
                    custom.counts[sign] = letter - '0';
                    break;
                case ONCE:
                    custom.once[sign] |= 1 << signOf(letter);
                    break;
                case TWICE:
                    custom.twice[sign] |= 1 << signOf(letter);
                    break;
                default:
                    break;
            }
        }

        private static boolean endsRule(int place) {
            return place == COUNTED || place == ONCE || place == TWICE;
        }

        private static int after(int state, int letter) {
            int place = state & PLACE_MASK;
            int sign = state >> SIGN_SHIFT;
            if (letter == ',') {
                return endsRule(place) ? START : DEAD;
            }
            if (letter == '<') {
                return behindMark(place, sign);
            }
            if (letter >= '1' && letter <= '9') {
                return place == NAMED ? at(COUNTED, sign) : DEAD;
            }
            int named = signOf(letter);
            return named < 0 ? DEAD : behindSign(place, sign, named);
        }

        private static int behindMark(int place, int sign) {
            if (place == NAMED && outweighs(SIGNS - 1, 1, sign)) {
                return at(BEHIND_ONE, sign);
            }
            if (place == BEHIND_ONE && outweighs(SIGNS - 1, 2, sign)) {
                return at(BEHIND_TWO, sign);
            }
            return DEAD;
        }

        private static int behindSign(int place, int sign, int named) {
            switch (place) {
                case START:
                    return at(NAMED, named);
                case BEHIND_ONE:
                case ONCE:
                    return outweighs(named, 1, sign) ? at(ONCE, sign) : DEAD;
                case BEHIND_TWO:
                case TWICE:
                    return outweighs(named, 2, sign) ? at(TWICE, sign) : DEAD;
                default:
                    return DEAD;
            }
        }

        private static boolean outweighs(int head, int number, int sign) {
            return WORTH[head] > number * WORTH[sign];
        }

        private static int at(int place, int sign) {
            return place | sign << SIGN_SHIFT;
        }
    }

    /** A row of signs; I alone at first. */
    private static final class Row {
        private final int[] signs = new int[ROW_SIGNS];
        private int length = 1;

        private void copy(Row other) {
            for (int i = 0; i < other.length; i++) {
                signs[i] = other.signs[i];
            }
            length = other.length;
        }

        private void put(int sign, int times) {
            for (int i = 0; i < times && length < ROW_SIGNS; i++) {
                signs[length] = sign;
                length++;
            }
        }

        /** Whether the i-th is taken; of like signs side by side, as the one behind it is. */
        private boolean isTaken(int i, boolean takenBehind) {
            if (i + 1 >= length) {
                return false;
            }
            return signs[i] == signs[i + 1] ? takenBehind : signs[i] < signs[i + 1];
        }

        private int total() {
            int sum = 0;
            boolean taken = false;
            for (int i = length - 1; i >= 0; i--) {
                taken = isTaken(i, taken);
                sum += taken ? -WORTH[signs[i]] : WORTH[signs[i]];
            }
            return sum;
        }

        private long digestOn(long h) {
            h = mix(h, length);
            for (int i = 0; i < length; i++) {
                h = mix(h, signs[i]);
            }
            return h;
        }
    }

    /**
     * What may be written, and the cutting of rows into pieces, sign by sign. A state holds: below
     * which number heads must be from now on; how many plain ones of the greatest such head stand
     * already; and one or two like signs of which it is still open whether they are plain or
     * taken. Each state but DEAD can still become a writing.
     */
    private static final class Custom {
        private static final int DEAD = -1;
        private static final int FRESH = SIGNS;
        private static final int FIELD_MASK = 15, STANDING_SHIFT = 4, SIGN_SHIFT = 8, OPEN_SHIFT = 12;

        private final int[] counts = new int[SIGNS];
        private final int[] once = new int[SIGNS];
        private final int[] twice = new int[SIGNS];

        private boolean allows(Row row) {
            int state = FRESH;
            for (int i = 0; i < row.length; i++) {
                state = after(state, row.signs[i]);
                if (state == DEAD) {
                    return false;
                }
            }
            return isWhole(state);
        }

        private int goodSigns(Row row) {
            int state = FRESH;
            for (int i = 0; i < row.length; i++) {
                state = after(state, row.signs[i]);
                if (state == DEAD) {
                    return i;
                }
            }
            return row.length;
        }

        private int after(int state, int sign) {
            int open = openIn(state);
            if (open == 0) {
                return leaveOpen(state, sign, 1);
            }
            int first = signIn(state);
            if (sign > first) {
                return closeTaking(state, sign);
            }
            if (sign == first && open == 1) {
                return leaveOpen(state, sign, 2);
            }
            if (sign == first) {
                return closePlain(state, 3);
            }
            int closed = closePlain(state, open);
            return closed == DEAD ? DEAD : leaveOpen(closed, sign, 1);
        }

        private boolean isWhole(int state) {
            int open = openIn(state);
            int sign = signIn(state);
            return open == 0 || standingOf(state, sign) + open <= counts[sign];
        }

        private int leaveOpen(int state, int sign, int open) {
            int below = belowIn(state);
            if (sign >= below) {
                return DEAD;
            }
            // two like signs are not a plain one and one taken once: that head would be too great
            int heads = open == 1 ? once[sign] | twice[sign] : twice[sign];
            boolean canBeTaken = (heads & (1 << below) - 1) != 0;
            boolean canBePlain = standingOf(state, sign) + open <= counts[sign];
            if (!canBeTaken && !canBePlain) {
                return DEAD;
            }
            int closed = state & (1 << SIGN_SHIFT) - 1;
            return closed | sign << SIGN_SHIFT | open << OPEN_SHIFT;
        }

        private int closePlain(int state, int number) {
            int sign = signIn(state);
            int standing = standingOf(state, sign) + number;
            return standing <= counts[sign] ? sign + 1 | standing << STANDING_SHIFT : DEAD;
        }

        private int closeTaking(int state, int head) {
            int sign = signIn(state);
            boolean may = openIn(state) == 1 ? mayTakeOnce(sign, head) : mayTakeTwice(sign, head);
            return may && head < belowIn(state) ? sign : DEAD;
        }

        private boolean mayTakeOnce(int sign, int head) {
            return (once[sign] >> head & 1) == 1;
        }

        private boolean mayTakeTwice(int sign, int head) {
            return (twice[sign] >> head & 1) == 1;
        }

        private static int standingOf(int state, int sign) {
            boolean isGreatest = sign + 1 == (state & FIELD_MASK);
            return isGreatest ? state >> STANDING_SHIFT & FIELD_MASK : 0;
        }

        private static int belowIn(int state) {
            return state & FIELD_MASK;
        }

        private static int signIn(int state) {
            return state >> SIGN_SHIFT & FIELD_MASK;
        }

        private static int openIn(int state) {
            return state >> OPEN_SHIFT;
        }

        private long digestOn(long h) {
            for (int sign = 0; sign < SIGNS; sign++) {
                h = mix(mix(mix(h, counts[sign]), once[sign]), twice[sign]);
            }
            return h;
        }
    }

    /**
     * Numbers of writings, for a sign b, a value left and a length. Every sign's worth divides
     * that of each greater one: with all pieces from b on done, what can be left is the number's
     * rest by the worth of b and a few times that worth, or 24 signs would not be enough for it.
     * So a cell is told by b and by how many times its worth is left; it has a count a length.
     */
    private static final class Tally {
        private static final int CAP = 5000;
        private static final int LENGTHS = ROW_SIGNS + 1;
        /** Stands for the worth of a sign above all: no number reaches it. */
        private static final int BEYOND = GREATEST_NUMBER + 1;

        private final int[] units = new int[SIGNS + 1];
        private final int[] mostTimes = new int[SIGNS + 1];
        private final int[] firstCell = new int[SIGNS + 1];
        private final int[] counts;

        /** More: how often the worth of b itself may be in the value beside that of heads below b. */
        private Tally(int more) {
            int cells = 0;
            for (int b = 0; b <= SIGNS; b++) {
                units[b] = b < SIGNS ? WORTH[b] : BEYOND;
                int below = b == 0 ? 0 : ROW_SIGNS * units[b - 1] / units[b];
                mostTimes[b] = Math.min(ROW_SIGNS, below + more);
                firstCell[b] = cells;
                cells += mostTimes[b] + 1;
            }
            counts = new int[cells * LENGTHS];
        }

        /** Where the counts of a cell begin. */
        private int startOf(int b, int times) {
            return (firstCell[b] + times) * LENGTHS;
        }

        /** The same by value; NONE: 24 signs are never worth it. */
        private int startFor(int b, int value) {
            if (value < 0) {
                return NONE;
            }
            int times = value / units[b];
            return times > mostTimes[b] ? NONE : (firstCell[b] + times) * LENGTHS;
        }

        private void clearAt(int start) {
            for (int length = 0; length < LENGTHS; length++) {
                counts[start + length] = 0;
            }
        }

        /** Adds what another tally has of b for a value, each with some signs more. */
        private void addAt(int start, Tally other, int b, int value, int signs) {
            int from = other.startFor(b, value);
            if (from == NONE) {
                return;
            }
            for (int length = signs; length < LENGTHS; length++) {
                int sum = counts[start + length] + other.counts[from + length - signs];
                counts[start + length] = Math.min(CAP, sum);
            }
        }

        private int exactly(int b, int value, int length) {
            int from = startFor(b, value);
            return from == NONE || length < 0 || length > ROW_SIGNS ? 0 : counts[from + length];
        }

        private int atMost(int b, int value, int length) {
            int from = startFor(b, value);
            if (from == NONE) {
                return 0;
            }
            int sum = 0;
            for (int i = 0; i <= length && i <= ROW_SIGNS; i++) {
                sum += counts[from + i];
            }
            return Math.min(CAP, sum);
        }
    }

    /** The writings of a number by a custom, counted without making them, and one found among them. */
    private static final class Writings {
        /** Of sign b: with heads below b alone. */
        private final Tally lower = new Tally(0);
        /** Of sign b: with heads up to b, but no plain b. */
        private final Tally unplain = new Tally(1);
        private final Row found = new Row();
        private Custom custom = new Custom();
        private int customNumber = NONE;
        private int number = 0;

        /** On the way to a writing: its value and room that are left, signs due (NONE: any), its rank. */
        private int left = 0;
        private int room = 0;
        private int due = NONE;
        private int rank = 0;

        private void prepare(Custom asked, int k, int n) {
            if (k == customNumber && n == number) {
                return;
            }
            custom = asked;
            customNumber = k;
            number = n;
            // with no head at all there is the empty row, of worth 0
            lower.counts[0] = 1;
            for (int head = 0; head < SIGNS; head++) {
                countTakings(head);
                countPlain(head);
            }
        }

        private void countTakings(int head) {
            int unit = WORTH[head];
            for (int times = 0; times <= unplain.mostTimes[head]; times++) {
                int value = number % unit + times * unit;
                int start = unplain.startOf(head, times);
                unplain.clearAt(start);
                unplain.addAt(start, lower, head, value, 0);
                for (int a = 0; a < head; a++) {
                    if (custom.mayTakeOnce(a, head)) {
                        unplain.addAt(start, lower, a, value - unit + WORTH[a], 2);
                    }
                    if (custom.mayTakeTwice(a, head)) {
                        unplain.addAt(start, lower, a, value - unit + 2 * WORTH[a], 3);
                    }
                }
            }
        }

        private void countPlain(int head) {
            int unit = lower.units[head + 1];
            for (int times = 0; times <= lower.mostTimes[head + 1]; times++) {
                int value = number % unit + times * unit;
                int start = lower.startOf(head + 1, times);
                lower.clearAt(start);
                for (int plain = 0; plain <= custom.counts[head]; plain++) {
                    lower.addAt(start, unplain, head, value - plain * WORTH[head], plain);
                }
            }
        }

        private int inAll() {
            return lower.atMost(SIGNS, number, ROW_SIGNS);
        }

        private boolean findByOrder(int i) {
            if (i >= inAll()) {
                return false;
            }
            walk(NONE, i);
            return true;
        }

        private boolean findShortest() {
            for (int length = 1; length <= ROW_SIGNS; length++) {
                if (lower.exactly(SIGNS, number, length) > 0) {
                    walk(length, 0);
                    if (rank < Tally.CAP) {
                        return true;
                    }
                }
            }
            return false;
        }

        /** Finds the writing of a rank, or the first one of a length, whose rank is summed up. */
        private void walk(int length, int startRank) {
            left = number;
            room = ROW_SIGNS;
            due = length;
            rank = startRank;
            found.length = 0;
            int below = SIGNS;
            for (int head = SIGNS - 1; head >= 0; head--) {
                if (head < below) {
                    choosePlain(head);
                    below = chooseTaking(head);
                }
            }
        }

        private void choosePlain(int head) {
            for (int plain = custom.counts[head]; plain >= 0; plain--) {
                if (goes(unplain, head, plain * WORTH[head], plain)) {
                    found.put(head, plain);
                    return;
                }
            }
        }

        /** Answers below which sign the next heads are. */
        private int chooseTaking(int head) {
            if (goes(lower, head, 0, 0)) {
                return head;
            }
            for (int a = head - 1; a >= 0; a--) {
                if (custom.mayTakeOnce(a, head) && goes(lower, a, WORTH[head] - WORTH[a], 2)) {
                    found.put(a, 1);
                    found.put(head, 1);
                    return a;
                }
            }
            for (int a = head - 1; a >= 0; a--) {
                if (custom.mayTakeTwice(a, head) && goes(lower, a, WORTH[head] - 2 * WORTH[a], 3)) {
                    found.put(a, 2);
                    found.put(head, 1);
                    return a;
                }
            }
            return head;
        }

        /** Whether the way goes on with a choice, and what is behind it is of sign b in a tally. */
        private boolean goes(Tally tally, int b, int value, int signs) {
            int behind = tally.atMost(b, left - value, room - signs);
            boolean byRank = due == NONE;
            if (byRank ? rank >= behind : tally.exactly(b, left - value, due - signs) == 0) {
                rank += byRank ? -behind : behind;
                return false;
            }
            left -= value;
            room -= signs;
            due -= byRank ? 0 : signs;
            return true;
        }
    }

    /** The board: what is given and owed of the signs 0 to 6. */
    private static final class Abacus {
        private static final int COLUMNS = 7;
        private static final int MOST = 99;
        private static final int MOST_STEPS = 300;
        private static final int CANCEL = 0, UNTIE = 10, TIE = 20;
        /** How many of a sign make one of the next. */
        private static final int[] BUNDLE = {5, 2, 5, 2, 5, 2};

        private final int[] given = new int[COLUMNS];
        private final int[] owed = new int[COLUMNS];
        private final int[] moreGiven = new int[COLUMNS];
        private final int[] moreOwed = new int[COLUMNS];
        private final int[] steps = new int[MOST_STEPS];
        private int stepsDone = 0;

        private static boolean hasColumns(Row row) {
            for (int i = 0; i < row.length; i++) {
                if (row.signs[i] >= COLUMNS) {
                    return false;
                }
            }
            return true;
        }

        /** A row that has columns; false: something would be too much, and nothing is done. */
        private boolean addRow(Row row, boolean in) {
            for (int sign = 0; sign < COLUMNS; sign++) {
                moreGiven[sign] = given[sign];
                moreOwed[sign] = owed[sign];
            }
            boolean taken = false;
            for (int i = row.length - 1; i >= 0; i--) {
                taken = row.isTaken(i, taken);
                int sign = row.signs[i];
                if (taken == in) {
                    moreOwed[sign]++;
                } else {
                    moreGiven[sign]++;
                }
            }
            return acceptMore();
        }

        private boolean acceptMore() {
            for (int sign = 0; sign < COLUMNS; sign++) {
                if (moreGiven[sign] > MOST || moreOwed[sign] > MOST) {
                    return false;
                }
            }
            for (int sign = 0; sign < COLUMNS; sign++) {
                given[sign] = moreGiven[sign];
                owed[sign] = moreOwed[sign];
            }
            return true;
        }

        private int pebbles() {
            int sum = 0;
            for (int sign = 0; sign < COLUMNS; sign++) {
                sum += given[sign] + owed[sign];
            }
            return sum;
        }

        private int total() {
            int sum = 0;
            for (int sign = 0; sign < COLUMNS; sign++) {
                sum += WORTH[sign] * (given[sign] - owed[sign]);
            }
            return sum;
        }

        private void clear() {
            for (int sign = 0; sign < COLUMNS; sign++) {
                given[sign] = 0;
                owed[sign] = 0;
            }
        }

        private boolean hasBundle(int sign) {
            return given[sign] >= BUNDLE[sign];
        }

        /** False: it would be too much, and nothing is done. */
        private boolean tieUp(int sign) {
            if (given[sign + 1] + 1 > MOST) {
                return false;
            }
            given[sign] -= BUNDLE[sign];
            given[sign + 1]++;
            return true;
        }

        /** False: it would be too much, and nothing is done. */
        private boolean untie(int sign) {
            if (given[sign - 1] + BUNDLE[sign - 1] > MOST) {
                return false;
            }
            given[sign]--;
            given[sign - 1] += BUNDLE[sign - 1];
            return true;
        }

        private void settleAll() {
            stepsDone = 0;
            while (stepsDone < MOST_STEPS) {
                int next = nextStep();
                if (next == NONE || !carryOut(next)) {
                    return;
                }
                steps[stepsDone] = next;
                stepsDone++;
            }
        }

        private int nextStep() {
            for (int sign = 0; sign < COLUMNS; sign++) {
                if (given[sign] > 0 && owed[sign] > 0) {
                    return CANCEL + sign;
                }
            }
            for (int sign = leastOwed() + 1; sign < COLUMNS; sign++) {
                if (given[sign] > 0) {
                    return UNTIE + sign;
                }
            }
            for (int sign = 0; sign < COLUMNS - 1; sign++) {
                if (hasBundle(sign)) {
                    return TIE + sign;
                }
            }
            return NONE;
        }

        /** COLUMNS: nothing is owed. */
        private int leastOwed() {
            for (int sign = 0; sign < COLUMNS; sign++) {
                if (owed[sign] > 0) {
                    return sign;
                }
            }
            return COLUMNS;
        }

        private boolean carryOut(int next) {
            if (next >= TIE) {
                return tieUp(next - TIE);
            }
            if (next >= UNTIE) {
                return untie(next - UNTIE);
            }
            given[next - CANCEL]--;
            owed[next - CANCEL]--;
            return true;
        }

        private boolean canBeLifted() {
            int number = pebbles();
            return leastOwed() == COLUMNS && number >= 1 && number <= ROW_SIGNS;
        }

        private void copyGiven(Row row) {
            row.length = 0;
            for (int sign = COLUMNS - 1; sign >= 0; sign--) {
                row.put(sign, given[sign]);
            }
        }

        private long digestOn(long h) {
            for (int sign = 0; sign < COLUMNS; sign++) {
                h = mix(mix(h, given[sign]), owed[sign]);
            }
            return h;
        }
    }

    /** The stone, and what it may have said by a custom. No places: there is none. */
    private static final class Slab {
        private static final int MOST_PLACES = 20;
        private static final int MOST_GAPS = 3;
        private static final int GAP = SIGNS;
        /** Behind a broken end there is one more, a gap that may also have been nothing. */
        private final int[] signs = new int[MOST_PLACES + 1];
        private int places = 0;
        private int reach = 0;

        private final Row filling = new Row();
        /** Grows with the stones that are read: few have as many gaps as can be. */
        private int[] worths = new int[1];
        /** The sign that all fillings have at a place; NONE: there is none. */
        private final int[] common = new int[MOST_PLACES];
        private int fillings = 0;
        private int worthsFound = 0;
        private int filledBy = NONE;

        private static int placesOn(Page page) {
            boolean marked = page.length > 0 && page.codes[page.length - 1] == '*';
            return marked ? page.length - 1 : page.length;
        }

        private static boolean isStone(Page page) {
            int number = placesOn(page);
            if (number < 1 || number > MOST_PLACES) {
                return false;
            }
            int gaps = 0;
            for (int i = 0; i < number; i++) {
                if (page.codes[i] == '.') {
                    gaps++;
                } else if (signOf(page.codes[i]) < 0) {
                    return false;
                }
            }
            return gaps <= MOST_GAPS;
        }

        private void carve(Page page) {
            places = placesOn(page);
            reach = page.length;
            for (int i = 0; i < places; i++) {
                signs[i] = page.codes[i] == '.' ? GAP : signOf(page.codes[i]);
            }
            if (reach > places) {
                signs[places] = GAP;
            }
            filledBy = NONE;
        }

        private void fillBy(Custom custom, int k) {
            if (filledBy == k) {
                return;
            }
            filledBy = k;
            makeRoom();
            fillings = 0;
            for (int i = 0; i < places; i++) {
                common[i] = NONE;
            }
            fillFrom(this, 0, custom, Custom.FRESH);
            sortWorths();
            dropLikeWorths();
        }

        /** Any sign may stand in each gap, and any or none behind a broken end. */
        private void makeRoom() {
            int most = reach > places ? SIGNS + 1 : 1;
            for (int i = 0; i < places; i++) {
                most *= signs[i] == GAP ? SIGNS : 1;
            }
            if (most > worths.length) {
                worths = new int[most];
            }
        }

        private static void fillFrom(Slab slab, int place, Custom custom, int state) {
            if (place >= slab.places && custom.isWhole(state)) {
                slab.keepFilling(place);
            }
            if (place >= slab.reach || place > MOST_PLACES) {
                return;
            }
            int known = slab.signs[place];
            int first = known == GAP ? 0 : known;
            int last = known == GAP ? SIGNS - 1 : known;
            for (int sign = first; sign <= last; sign++) {
                int next = custom.after(state, sign);
                if (next != Custom.DEAD) {
                    slab.filling.signs[place] = sign;
                    fillFrom(slab, place + 1, custom, next);
                }
            }
        }

        private void keepFilling(int length) {
            if (fillings >= worths.length) {
                return;
            }
            filling.length = length;
            worths[fillings] = filling.total();
            for (int i = 0; i < places; i++) {
                if (fillings == 0) {
                    common[i] = filling.signs[i];
                } else if (common[i] != filling.signs[i]) {
                    common[i] = NONE;
                }
            }
            fillings++;
        }

        private void sortWorths() {
            for (int gap = fillings / 2; gap > 0; gap /= 2) {
                for (int i = gap; i < fillings; i++) {
                    int worth = worths[i];
                    int j = i;
                    while (j >= gap && worths[j - gap] > worth) {
                        worths[j] = worths[j - gap];
                        j -= gap;
                    }
                    worths[j] = worth;
                }
            }
        }

        private void dropLikeWorths() {
            worthsFound = 0;
            for (int i = 0; i < fillings; i++) {
                if (worthsFound == 0 || worths[i] != worths[worthsFound - 1]) {
                    worths[worthsFound] = worths[i];
                    worthsFound++;
                }
            }
        }

        private long digestOn(long h) {
            for (int i = 0; i < places; i++) {
                h = mix(h, signs[i]);
            }
            return mix(h, reach > places ? 1 : 0);
        }
    }

    /** Rows noted as a mason's, and as bits the customs by which all of them are writings. */
    private static final class Mason {
        private static final int MOST_ROWS = 30;

        private final Row[] rows = new Row[MOST_ROWS];
        private int noted = 0;
        private int customBits = 0;

        private Mason() {
            for (int i = 0; i < MOST_ROWS; i++) {
                rows[i] = new Row();
            }
        }

        private void remember(Row row, int allowing) {
            if (noted >= MOST_ROWS) {
                return;
            }
            rows[noted].copy(row);
            noted++;
            customBits &= allowing;
        }

        private void meet(Custom custom, int k) {
            for (int i = 0; i < noted; i++) {
                if (!custom.allows(rows[i])) {
                    return;
                }
            }
            customBits |= 1 << k;
        }
    }

    /** The account, and the slip that explains its first wrong line. */
    private static final class Ledger {
        private static final int MOST_LINES = 20;
        private static final int LEFT_OUT = 0, TOO_MUCH = 1, IN_PLACE = 2;

        private final Row[] amounts = new Row[MOST_LINES];
        private final Row[] totals = new Row[MOST_LINES];
        private final int[] amountWorths = new int[MOST_LINES];
        private final int[] totalWorths = new int[MOST_LINES];
        private int lines = 0;

        private final Row trial = new Row();
        private boolean slipSought = false;
        private boolean slipFound = false;
        private int slipPart = NONE;
        private int slipSort = NONE;
        private int slipPlace = NONE;
        private int slipSign = NONE;

        private Ledger() {
            for (int i = 0; i < MOST_LINES; i++) {
                amounts[i] = new Row();
                totals[i] = new Row();
            }
        }

        private void append(Row amount, Row total) {
            if (lines >= MOST_LINES) {
                return;
            }
            amounts[lines].copy(amount);
            totals[lines].copy(total);
            amountWorths[lines] = amount.total();
            totalWorths[lines] = total.total();
            lines++;
            slipSought = false;
        }

        private void clear() {
            lines = 0;
            slipSought = false;
        }

        private int totalAhead(int i) {
            return i == 0 ? 0 : totalWorths[i - 1];
        }

        private int firstWrong() {
            for (int i = 0; i < lines; i++) {
                if (totalWorths[i] != totalAhead(i) + amountWorths[i]) {
                    return i;
                }
            }
            return NONE;
        }

        private int firstMended() {
            int wrongLine = firstWrong();
            int sum = 0;
            for (int i = 0; i < lines; i++) {
                sum += amountWorths[i];
                if (wrongLine != NONE && i > wrongLine && totalWorths[i] == sum) {
                    return i;
                }
            }
            return NONE;
        }

        private boolean findSlip() {
            if (!slipSought) {
                slipSought = true;
                int i = firstWrong();
                slipFound = i != NONE
                    && (canBecome(0, amounts[i], totalWorths[i] - totalAhead(i))
                    || canBecome(1, totals[i], totalAhead(i) + amountWorths[i]));
            }
            return slipFound;
        }

        private boolean canBecome(int part, Row row, int due) {
            slipPart = part;
            return withOneMore(row, due) || withOneLess(row, due) || withOneOther(row, due);
        }

        private boolean withOneMore(Row row, int due) {
            if (row.length >= ROW_SIGNS) {
                return false;
            }
            trial.length = row.length + 1;
            for (int i = 0; i < row.length; i++) {
                trial.signs[i + 1] = row.signs[i];
            }
            for (int place = 0; place <= row.length; place++) {
                if (anySignFits(place, NONE, due)) {
                    return foundSlip(LEFT_OUT, place, trial.signs[place]);
                }
                if (place < row.length) {
                    trial.signs[place] = row.signs[place];
                }
            }
            return false;
        }

        private boolean withOneLess(Row row, int due) {
            if (row.length < 2) {
                return false;
            }
            trial.length = row.length - 1;
            for (int i = 1; i < row.length; i++) {
                trial.signs[i - 1] = row.signs[i];
            }
            for (int place = 0; place < row.length; place++) {
                if (trial.total() == due) {
                    return foundSlip(TOO_MUCH, place, NONE);
                }
                trial.signs[place] = row.signs[place];
            }
            return false;
        }

        private boolean withOneOther(Row row, int due) {
            trial.copy(row);
            for (int place = 0; place < row.length; place++) {
                if (anySignFits(place, row.signs[place], due)) {
                    return foundSlip(IN_PLACE, place, trial.signs[place]);
                }
                trial.signs[place] = row.signs[place];
            }
            return false;
        }

        /** Leaves the least sign, but for one, with which the trial is worth what is due. */
        private boolean anySignFits(int place, int but, int due) {
            for (int sign = 0; sign < SIGNS; sign++) {
                trial.signs[place] = sign;
                if (sign != but && trial.total() == due) {
                    return true;
                }
            }
            return false;
        }

        private boolean foundSlip(int sort, int place, int sign) {
            slipSort = sort;
            slipPlace = place;
            slipSign = sign;
            return true;
        }

        private long digestOn(long h) {
            for (int i = 0; i < lines; i++) {
                h = mix(mix(h, amountWorths[i]), totalWorths[i]);
            }
            return h;
        }
    }
}
