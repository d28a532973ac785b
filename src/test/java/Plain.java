import java.util.ArrayList;
import java.util.Arrays;
import java.util.HashSet;
import java.util.List;
import java.util.Set;
import java.util.TreeSet;

/**
 * The document told once more, as slowly and as near to its words as can be: what LetterSums
 * answers is held against it. Rows are texts of sign letters here.
 */
final class Plain {
    static final int NONE = -1, UNKNOWN = -101, OUTSIDE = -102, STATE = -103, FULL = -104;
    static final String SIGNS = "IVXLCDMivxlcdm";
    static final int[] WORTH = {1, 5, 10, 50, 100, 500, 1000, 1000, 5000, 10000, 50000, 100000, 500000, 1000000};

    static final class Rule {
        final int[] count = new int[14];
        final boolean[][] once = new boolean[14][14];
        final boolean[][] twice = new boolean[14][14];
    }

    /** Plain ones, and a taking (times 0: none), of one head. */
    record Piece(int head, int plain, int times, int a) {
        String text() {
            String s = String.valueOf(SIGNS.charAt(head)).repeat(plain);
            return times == 0 ? s : s + String.valueOf(SIGNS.charAt(a)).repeat(times) + SIGNS.charAt(head);
        }
    }

    String page = "";
    final List<Rule> customs = new ArrayList<>();
    final String[] rows = new String[12];
    final int[][] board = new int[7][2];
    final List<Integer> steps = new ArrayList<>();
    String stone = "";
    final List<List<String>> masons = new ArrayList<>();
    final List<String[]> lines = new ArrayList<>();
    int written = 0;
    int stoneRead = 0;

    Plain() {
        Arrays.fill(rows, "I");
        for (int m = 0; m < 6; m++) {
            masons.add(new ArrayList<>());
        }
    }

    static int sg(char c) {
        return SIGNS.indexOf(c);
    }

    // ---- the page

    int letters(long w) {
        String s = "";
        boolean ended = false;
        for (int i = 0; i < 8; i++) {
            int b = (int) (w >>> 8 * i & 255);
            if (b > 126 || ended && b != 0) {
                return OUTSIDE;
            }
            if (b == 0) {
                ended = true;
            } else {
                s += (char) b;
            }
        }
        if (page.length() + s.length() > 80) {
            return FULL;
        }
        page += s;
        return page.length();
    }

    int blank() {
        int n = page.length();
        page = "";
        return n;
    }

    static Rule readCustom(String text) {
        Rule rule = new Rule();
        for (String part : text.split(",", -1)) {
            if (!part.matches("[IVXLCDMivxlcdm]([1-9]|<<?[IVXLCDMivxlcdm]+)")) {
                return null;
            }
            int a = sg(part.charAt(0));
            if (part.charAt(1) != '<') {
                rule.count[a] = part.charAt(1) - '0';
                continue;
            }
            boolean two = part.charAt(2) == '<';
            for (char c : part.substring(two ? 3 : 2).toCharArray()) {
                int b = sg(c);
                if (WORTH[b] <= (two ? 2 : 1) * WORTH[a]) {
                    return null;
                }
                (two ? rule.twice : rule.once)[a][b] = true;
            }
        }
        return rule;
    }

    int good() {
        String[] tails = {"", "1", "I1", "I", "V", "X", "L", "C", "D", "M", "i", "v", "x", "l", "c", "d", "m"};
        for (int n = page.length(); n > 0; n--) {
            for (String tail : tails) {
                if (readCustom(page.substring(0, n) + tail) != null) {
                    return n;
                }
            }
        }
        return 0;
    }

    int custom() {
        Rule rule = readCustom(page);
        if (rule == null) {
            return STATE;
        }
        if (customs.size() == 6) {
            return FULL;
        }
        customs.add(rule);
        page = "";
        return customs.size() - 1;
    }

    boolean noCustom(int k) {
        return k < 0 || k >= customs.size();
    }

    static boolean noRow(int r) {
        return r < 0 || r > 11;
    }

    int asks(int k, int sign, int what) {
        if (noCustom(k) || sign < 0 || sign > 13) {
            return UNKNOWN;
        }
        if (what < 0 || what > 2) {
            return OUTSIDE;
        }
        if (what == 0) {
            return customs.get(k).count[sign];
        }
        int bits = 0;
        for (int b = 0; b < 14; b++) {
            if ((what == 1 ? customs.get(k).once : customs.get(k).twice)[sign][b]) {
                bits += 1 << b;
            }
        }
        return bits;
    }

    // ---- rows

    int row(int r) {
        if (noRow(r)) {
            return UNKNOWN;
        }
        if (!page.matches("[IVXLCDMivxlcdm]{1,24}")) {
            return STATE;
        }
        rows[r] = page;
        page = "";
        return rows[r].length();
    }

    int sign(int r, int i) {
        if (noRow(r)) {
            return UNKNOWN;
        }
        return i < 0 || i >= rows[r].length() ? NONE : sg(rows[r].charAt(i));
    }

    static boolean taken(String row, int i) {
        for (int j = i + 1; j < row.length(); j++) {
            if (row.charAt(j) != row.charAt(i)) {
                return sg(row.charAt(j)) > sg(row.charAt(i));
            }
        }
        return false;
    }

    static int worthOf(String row) {
        int sum = 0;
        for (int i = 0; i < row.length(); i++) {
            sum += (taken(row, i) ? -1 : 1) * WORTH[sg(row.charAt(i))];
        }
        return sum;
    }

    int worth(int r) {
        return noRow(r) ? -100000001 : worthOf(rows[r]);
    }

    /** Cuts from a place on in every way; the pieces ahead are told as {head, a or -1}. */
    static boolean cuts(String row, int from, Rule rule, List<int[]> ahead) {
        if (!inOrder(ahead, rule)) {
            return false;
        }
        if (from == row.length()) {
            return true;
        }
        for (int n = 1; n <= 3 && from + n <= row.length(); n++) {
            int head = sg(row.charAt(from + n - 1));
            int a = n == 1 ? -1 : sg(row.charAt(from));
            boolean may = n == 1 || (n == 2 ? rule.once : rule.twice)[a][head]
                && (n == 2 || row.charAt(from) == row.charAt(from + 1));
            if (may) {
                ahead.add(new int[] {head, a});
                boolean all = cuts(row, from + n, rule, ahead);
                ahead.remove(ahead.size() - 1);
                if (all) {
                    return true;
                }
            }
        }
        return false;
    }

    static boolean inOrder(List<int[]> pieces, Rule rule) {
        for (int i = 0; i < pieces.size(); i++) {
            int[] p = pieces.get(i);
            int like = 0;
            for (int j = 0; j <= i; j++) {
                int[] q = pieces.get(j);
                if (q[0] < p[0]) {
                    return false;
                }
                if (j < i && q[1] >= 0 && (p[0] >= q[1] || p[1] >= q[1])) {
                    return false;
                }
                if (j < i && q[0] == p[0] && q[1] >= 0) {
                    return false;
                }
                like += q[0] == p[0] && q[1] < 0 ? 1 : 0;
            }
            if (like > rule.count[p[0]]) {
                return false;
            }
        }
        return true;
    }

    static boolean isWriting(String row, Rule rule) {
        return !row.isEmpty() && cuts(row, 0, rule, new ArrayList<>());
    }

    int keeps(int r, int k) {
        return noRow(r) || noCustom(k) ? UNKNOWN : isWriting(rows[r], customs.get(k)) ? 1 : 0;
    }

    static boolean beginsSome(String s, Rule rule, int more) {
        if (isWriting(s, rule)) {
            return true;
        }
        for (int i = 0; more > 0 && i < 14; i++) {
            if (beginsSome(s + SIGNS.charAt(i), rule, more - 1)) {
                return true;
            }
        }
        return false;
    }

    int begins(int r, int k) {
        if (noRow(r) || noCustom(k)) {
            return UNKNOWN;
        }
        int n = rows[r].length();
        while (n > 0 && !beginsSome(rows[r].substring(0, n), customs.get(k), 2)) {
            n--;
        }
        return n;
    }

    /** The first 5000 writings of a number, in ORDER. */
    List<String> writings(Rule rule, int n) {
        List<List<Piece>> all = new ArrayList<>();
        gather(rule, 13, n, 24, new ArrayList<>(), all, new HashSet<>());
        for (int i = 1; i < all.size(); i++) {
            if (compare(all.get(i - 1), all.get(i)) >= 0) {
                throw new IllegalStateException("gathered out of ORDER");
            }
        }
        List<String> texts = new ArrayList<>();
        for (List<Piece> pieces : all) {
            StringBuilder s = new StringBuilder();
            for (Piece p : pieces) {
                s.append(p.text());
            }
            texts.add(s.toString());
        }
        return texts;
    }

    static int compare(List<Piece> x, List<Piece> y) {
        for (int head = 13; head >= 0; head--) {
            Piece p = at(x, head);
            Piece q = at(y, head);
            if (p.plain != q.plain) {
                return q.plain - p.plain;
            }
            if (p.times != q.times) {
                return p.times - q.times;
            }
            if (p.times != 0 && p.a != q.a) {
                return q.a - p.a;
            }
        }
        return 0;
    }

    static Piece at(List<Piece> pieces, int head) {
        for (Piece p : pieces) {
            if (p.head == head) {
                return p;
            }
        }
        return new Piece(head, 0, 0, 0);
    }

    static void gather(Rule rule, int head, int left, int room, List<Piece> done, List<List<Piece>> all, Set<Long> dead) {
        if (left == 0) {
            all.add(new ArrayList<>(done));
        }
        if (left <= 0 || head < 0 || (long) room * WORTH[head] < left || all.size() >= 5000) {
            return;
        }
        long key = ((long) left * 32 + room) * 16 + head;
        if (dead.contains(key)) {
            return;
        }
        int before = all.size();
        for (int plain = rule.count[head]; plain >= 0; plain--) {
            int rest = left - plain * WORTH[head];
            follow(rule, new Piece(head, plain, 0, 0), head, rest, room - plain, done, all, dead);
            for (int times = 1; times <= 2; times++) {
                for (int a = head - 1; a >= 0; a--) {
                    if ((times == 1 ? rule.once : rule.twice)[a][head]) {
                        follow(rule, new Piece(head, plain, times, a), a, rest - WORTH[head] + times * WORTH[a],
                            room - plain - times - 1, done, all, dead);
                    }
                }
            }
        }
        if (all.size() == before) {
            dead.add(key);
        }
    }

    static void follow(Rule rule, Piece p, int below, int left, int room, List<Piece> done, List<List<Piece>> all, Set<Long> dead) {
        if (left < 0 || room < 0 || all.size() >= 5000) {
            return;
        }
        done.add(p);
        gather(rule, below - 1, left, room, done, all, dead);
        done.remove(done.size() - 1);
    }

    int ways(int k, int n) {
        if (noCustom(k)) {
            return UNKNOWN;
        }
        if (n < 1 || n > 9999999) {
            return OUTSIDE;
        }
        if (written == 40) {
            return STATE;
        }
        written++;
        return writings(customs.get(k), n).size();
    }

    int write(int r, int k, int n, int i) {
        if (noRow(r) || noCustom(k)) {
            return UNKNOWN;
        }
        if (n < 1 || n > 9999999 || i < NONE) {
            return OUTSIDE;
        }
        if (written == 40) {
            return STATE;
        }
        written++;
        List<String> all = writings(customs.get(k), n);
        int at = i;
        if (i == NONE) {
            at = 0;
            for (int j = 0; j < all.size(); j++) {
                at = all.get(j).length() < all.get(at).length() ? j : at;
            }
        }
        if (at >= all.size()) {
            return 0;
        }
        rows[r] = all.get(at);
        return rows[r].length();
    }

    // ---- the board

    int board(int sign, int side) {
        if (sign < 0 || sign > 6) {
            return UNKNOWN;
        }
        return side < 0 || side > 1 ? OUTSIDE : board[sign][side];
    }

    int together() {
        int sum = 0;
        for (int[] column : board) {
            sum += column[0] + column[1];
        }
        return sum;
    }

    int pour(int r, boolean in) {
        if (noRow(r)) {
            return UNKNOWN;
        }
        if (!rows[r].matches("[IVXLCDM]*")) {
            return OUTSIDE;
        }
        int[][] after = new int[7][];
        for (int s = 0; s < 7; s++) {
            after[s] = board[s].clone();
        }
        for (int i = 0; i < rows[r].length(); i++) {
            after[sg(rows[r].charAt(i))][taken(rows[r], i) == in ? 1 : 0]++;
        }
        for (int[] column : after) {
            if (column[0] > 99 || column[1] > 99) {
                return FULL;
            }
        }
        System.arraycopy(after, 0, board, 0, 7);
        return together();
    }

    static int five(int sign) {
        return sign % 2 == 0 ? 5 : 2;
    }

    int bundle(int sign) {
        if (sign < 0 || sign > 5) {
            return UNKNOWN;
        }
        if (board[sign][0] < five(sign)) {
            return STATE;
        }
        if (board[sign + 1][0] == 99) {
            return FULL;
        }
        board[sign][0] -= five(sign);
        return ++board[sign + 1][0];
    }

    int unbundle(int sign) {
        if (sign < 1 || sign > 6) {
            return UNKNOWN;
        }
        if (board[sign][0] == 0) {
            return STATE;
        }
        if (board[sign - 1][0] + five(sign - 1) > 99) {
            return FULL;
        }
        board[sign][0]--;
        return board[sign - 1][0] += five(sign - 1);
    }

    int settle() {
        steps.clear();
        while (steps.size() < 300 && settleOnce()) {
            continue;
        }
        return steps.size();
    }

    boolean settleOnce() {
        for (int s = 0; s < 7; s++) {
            if (board[s][0] > 0 && board[s][1] > 0) {
                board[s][0]--;
                board[s][1]--;
                return steps.add(s);
            }
        }
        for (int a = 0; a < 7; a++) {
            if (board[a][1] > 0) {
                for (int s = a + 1; s < 7; s++) {
                    if (board[s][0] > 0) {
                        return unbundle(s) >= 0 && steps.add(10 + s);
                    }
                }
                break;
            }
        }
        for (int s = 0; s < 6; s++) {
            if (board[s][0] >= five(s)) {
                return bundle(s) >= 0 && steps.add(20 + s);
            }
        }
        return false;
    }

    int step(int i) {
        return i < 0 || i >= steps.size() ? NONE : steps.get(i);
    }

    int holds() {
        int sum = 0;
        for (int s = 0; s < 7; s++) {
            sum += board[s][0] * WORTH[s] - board[s][1] * WORTH[s];
        }
        return sum;
    }

    int lift(int r) {
        if (noRow(r)) {
            return UNKNOWN;
        }
        String s = "";
        for (int i = 6; i >= 0; i--) {
            if (board[i][1] > 0) {
                return STATE;
            }
            s += String.valueOf(SIGNS.charAt(i)).repeat(board[i][0]);
        }
        if (s.isEmpty() || s.length() > 24) {
            return STATE;
        }
        rows[r] = s;
        return s.length();
    }

    int sweep() {
        int sum = together();
        for (int[] column : board) {
            Arrays.fill(column, 0);
        }
        return sum;
    }

    // ---- times, parts

    int times(int a, int b, int what) {
        boolean known = what == 0 || what == 1 || what >= 10 && what <= 49;
        if (a < 1 || a > 9999 || b < 1 || b > 9999 || !known) {
            return OUTSIDE;
        }
        List<int[]> table = new ArrayList<>();
        table.add(new int[] {a, b});
        while (table.get(table.size() - 1)[0] != 1) {
            int[] last = table.get(table.size() - 1);
            table.add(new int[] {last[0] / 2, last[1] * 2});
        }
        if (what == 0) {
            return table.stream().filter(x -> x[0] % 2 == 1).mapToInt(x -> x[1]).sum();
        }
        if (what == 1) {
            return table.size();
        }
        int i = what < 30 ? what - 10 : what - 30;
        return i >= table.size() ? NONE : table.get(i)[what < 30 ? 0 : 1];
    }

    int parts(int a, int b, int what) {
        if (a < 0 || a > 9999 || b < 1 || b > 9999 || what < 0 || what > 3) {
            return OUTSIDE;
        }
        List<int[]> table = new ArrayList<>();
        for (int one = 1, two = b; two <= a; one *= 2, two *= 2) {
            table.add(new int[] {one, two});
        }
        int sum = 0;
        int left = a;
        int bits = 0;
        for (int i = table.size() - 1; i >= 0; i--) {
            if (table.get(i)[1] <= left) {
                left -= table.get(i)[1];
                sum += table.get(i)[0];
                bits += 1 << i;
            }
        }
        return what == 0 ? sum : what == 1 ? left : what == 2 ? table.size() : bits;
    }

    // ---- stones

    int stone() {
        boolean broken = page.endsWith("*");
        String s = broken ? page.substring(0, page.length() - 1) : page;
        if (!s.matches("[IVXLCDMivxlcdm.]{1,20}") || s.chars().filter(c -> c == '.').count() > 3) {
            return STATE;
        }
        stone = page;
        page = "";
        return s.length();
    }

    int places() {
        return stone.endsWith("*") ? stone.length() - 1 : stone.length();
    }

    List<String> fillings(Rule rule) {
        List<String> all = new ArrayList<>();
        List<String> open = new ArrayList<>();
        open.add(stone);
        while (!open.isEmpty()) {
            String s = open.remove(open.size() - 1);
            int at = s.indexOf('.') >= 0 ? s.indexOf('.') : s.indexOf('*');
            if (at < 0) {
                if (isWriting(s, rule)) {
                    all.add(s);
                }
                continue;
            }
            if (s.charAt(at) == '*') {
                open.add(s.substring(0, at));
            }
            for (int i = 0; i < 14; i++) {
                open.add(s.substring(0, at) + SIGNS.charAt(i) + s.substring(at + 1));
            }
        }
        return all;
    }

    List<Integer> worths(int k) {
        stoneRead++;
        TreeSet<Integer> set = new TreeSet<>();
        for (String s : fillings(customs.get(k))) {
            set.add(worthOf(s));
        }
        return new ArrayList<>(set);
    }

    int could(int k) {
        if (noCustom(k)) {
            return UNKNOWN;
        }
        return stone.isEmpty() || stoneRead == 30 ? STATE : worths(k).size();
    }

    int says(int k, int i) {
        if (noCustom(k)) {
            return UNKNOWN;
        }
        if (stone.isEmpty() || stoneRead == 30) {
            return STATE;
        }
        List<Integer> list = worths(k);
        return i < 0 || i >= list.size() ? NONE : list.get(i);
    }

    int sure(int k, int place) {
        if (noCustom(k)) {
            return UNKNOWN;
        }
        if (place < 0 || place > 19) {
            return OUTSIDE;
        }
        if (stone.isEmpty() || stoneRead == 30) {
            return STATE;
        }
        stoneRead++;
        if (place >= places()) {
            return NONE;
        }
        Set<Character> set = new HashSet<>();
        for (String s : fillings(customs.get(k))) {
            set.add(s.charAt(place));
        }
        return set.size() == 1 ? sg(set.iterator().next()) : NONE;
    }

    // ---- masons

    int note(int m, int r) {
        if (m < 0 || m > 5 || noRow(r)) {
            return UNKNOWN;
        }
        if (masons.get(m).size() == 30) {
            return FULL;
        }
        masons.get(m).add(rows[r]);
        return masons.get(m).size();
    }

    int habit(int m) {
        if (m < 0 || m > 5) {
            return UNKNOWN;
        }
        int bits = 0;
        for (int k = 0; k < customs.size(); k++) {
            Rule rule = customs.get(k);
            bits += masons.get(m).stream().distinct().allMatch(s -> isWriting(s, rule)) ? 1 << k : 0;
        }
        return bits;
    }

    int hands(int r) {
        if (noRow(r)) {
            return UNKNOWN;
        }
        int bits = 0;
        for (int m = 0; m < 6; m++) {
            boolean some = false;
            for (int k = 0; k < customs.size(); k++) {
                some |= (habit(m) >> k & 1) == 1 && isWriting(rows[r], customs.get(k));
            }
            bits += some ? 1 << m : 0;
        }
        return bits;
    }

    // ---- accounts

    int line(int a, int t) {
        if (noRow(a) || noRow(t)) {
            return UNKNOWN;
        }
        if (lines.size() == 20) {
            return FULL;
        }
        lines.add(new String[] {rows[a], rows[t]});
        return lines.size();
    }

    int tear() {
        int n = lines.size();
        lines.clear();
        return n;
    }

    boolean isWrong(int i, String amount, String total) {
        return worthOf(total) != worthOf(amount) + (i == 0 ? 0 : worthOf(lines.get(i - 1)[1]));
    }

    int wrong() {
        for (int i = 0; i < lines.size(); i++) {
            if (isWrong(i, lines.get(i)[0], lines.get(i)[1])) {
                return i;
            }
        }
        return NONE;
    }

    int mended() {
        int w = wrong();
        for (int i = w + 1; w != NONE && i < lines.size(); i++) {
            int sum = 0;
            for (int j = 0; j <= i; j++) {
                sum += worthOf(lines.get(j)[0]);
            }
            if (worthOf(lines.get(i)[1]) == sum) {
                return i;
            }
        }
        return NONE;
    }

    int slip(int what) {
        if (what < 0 || what > 3) {
            return OUTSIDE;
        }
        int w = wrong();
        if (w == NONE) {
            return NONE;
        }
        for (int part = 0; part < 2; part++) {
            String s = lines.get(w)[part];
            for (int sort = 0; sort < 3; sort++) {
                for (int place = 0; place <= s.length(); place++) {
                    for (int sign = 0; sign < 14; sign++) {
                        String t = corrected(s, sort, place, SIGNS.charAt(sign));
                        if (t != null && !isWrong(w, part == 0 ? t : lines.get(w)[0], part == 1 ? t : lines.get(w)[1])) {
                            return new int[] {part, sort, place, sort == 1 ? NONE : sign}[what];
                        }
                    }
                }
            }
        }
        return NONE;
    }

    static String corrected(String s, int sort, int place, char sign) {
        if (sort == 0) {
            return s.length() == 24 ? null : s.substring(0, place) + sign + s.substring(place);
        }
        if (place == s.length() || sort == 1 && s.length() == 1 || sort == 2 && s.charAt(place) == sign) {
            return null;
        }
        return s.substring(0, place) + (sort == 1 ? "" : sign) + s.substring(place + 1);
    }

    // ---- what is told

    int count(int what) {
        int[] all = {customs.size(), page.length(), places(), lines.size(), written, stoneRead, steps.size()};
        return what < 0 || what > 6 ? OUTSIDE : all[what];
    }

    long digest() {
        List<Integer> all = new ArrayList<>();
        page.chars().forEach(all::add);
        for (int k = 0; k < customs.size(); k++) {
            for (int s = 0; s < 14; s++) {
                for (int what = 0; what < 3; what++) {
                    all.add(asks(k, s, what));
                }
            }
        }
        for (String row : rows) {
            all.add(row.length());
            row.chars().forEach(c -> all.add(sg((char) c)));
        }
        for (int[] column : board) {
            all.add(column[0]);
            all.add(column[1]);
        }
        stone.chars().filter(c -> c != '*').forEach(c -> all.add(c == '.' ? 14 : sg((char) c)));
        all.add(stone.endsWith("*") ? 1 : 0);
        for (int m = 0; m < 6; m++) {
            all.add(masons.get(m).size());
            all.add(habit(m));
        }
        for (String[] line : lines) {
            all.add(worthOf(line[0]));
            all.add(worthOf(line[1]));
        }
        for (int what = 4; what < 7; what++) {
            all.add(count(what));
        }
        long h = 223;
        for (int x : all) {
            h = 31 * h + x;
        }
        return h;
    }
}
