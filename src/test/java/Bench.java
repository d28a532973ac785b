import java.io.IOException;
import java.nio.file.Files;
import java.nio.file.Path;
import java.util.Set;
import java.util.TreeSet;

/**
 * What the tests by hand share: texts put onto pages, answers held against what is due, and the
 * sentences of the document that they are about.
 */
abstract class Bench {
    static final int NONE = -1, UNKNOWN = -101, OUTSIDE = -102, STATE = -103, FULL = -104;
    static final int LEAST = Integer.MIN_VALUE, GREATEST = Integer.MAX_VALUE;
    static final String SIGNS = "IVXLCDMivxlcdm";
    static final int[] WORTH = {1, 5, 10, 50, 100, 500, 1000, 1000, 5000, 10000, 50000, 100000, 500000, 1000000};
    static final String USUAL = "M9,D1,C3,L1,X3,V1,I3,I<VX,X<LC,C<DM";
    static final String OLD = "M9,D1,C4,L1,X4,V1,I4,I<<X";

    /** The promise that is tested; 0: what stands ahead of the promises. */
    static int promise = 0;
    private static String sentence = "";
    private static String[] sections = new String[0];
    private static final Set<Integer> quoted = new TreeSet<>();
    private static int wrong = 0;
    private static int checked = 0;

    /** A call with one number left open. */
    interface Call {
        long of(LetterSums x, int number);
    }

    // ---- what is due

    /** From here on a sentence of the document is tested: it has to stand there, word by word. */
    static void about(int number, String quote) {
        promise = number;
        sentence = quote;
        quoted.add(number);
        due("(the sentence stands in the document)", section(number).contains(quote) ? 1 : 0, 1);
    }

    private static String section(int number) {
        if (sections.length == 0) {
            sections = readDocument().split("## Promise [0-9]+: ");
        }
        return number < sections.length ? sections[number] : "";
    }

    private static String readDocument() {
        try {
            return Files.readString(Path.of("../shared/DOC.md")).replaceAll("\\s+", " ");
        } catch (IOException e) {
            System.out.println("../shared/DOC.md can not be read");
            return "";
        }
    }

    static int checkedSoFar() {
        return checked;
    }

    static void due(String what, long got, long want) {
        checked++;
        if (got != want) {
            wrong++;
            String of = sentence.isEmpty() ? "" : " '" + sentence + "'";
            System.out.println("promise " + promise + of + ": " + what + " answered " + got + ", due is " + want);
        }
    }

    /** Refusals change nothing: the digest, told ahead of the call, stays. */
    static void refused(String what, LetterSums x, long before, long got, long want) {
        due(what, got, want);
        due(what + " leaves all as it was", x.digest() == before ? 1 : 0, 1);
    }

    static void refused(String what, LetterSums x, Call call, int want, int... numbers) {
        for (int number : numbers) {
            refused(what + " of " + number, x, x.digest(), call.of(x, number), want);
        }
    }

    static void coversPromises(int first, int last) {
        sentence = "";
        for (promise = first; promise <= last; promise++) {
            due("sentences of it that are tested", quoted.contains(promise) ? 1 : 0, 1);
        }
    }

    static void report(String name) {
        System.out.println(name + ": " + checked + " answers, " + wrong + " are not as due");
        if (wrong != 0) {
            System.exit(1);
        }
    }

    // ---- texts

    static long packed(String text) {
        long w = 0;
        for (int i = text.length() - 1; i >= 0; i--) {
            w = w << 8 | text.charAt(i);
        }
        return w;
    }

    static LetterSums page(LetterSums x, String text) {
        x.blank();
        for (int i = 0; i < text.length(); i += 8) {
            x.letters(packed(text.substring(i, Math.min(text.length(), i + 8))));
        }
        return x;
    }

    static LetterSums page(String text) {
        return page(new LetterSums(), text);
    }

    static int custom(LetterSums x, String text) {
        return page(x, text).custom();
    }

    static LetterSums customs(String... texts) {
        LetterSums x = new LetterSums();
        for (String text : texts) {
            custom(x, text);
        }
        return x;
    }

    static int row(LetterSums x, int r, String text) {
        return page(x, text).row(r);
    }

    static int stone(LetterSums x, String text) {
        return page(x, text).stone();
    }

    static void same(LetterSums x, int r, String text) {
        due("length of " + text, x.sign(r, text.length()), NONE);
        for (int i = 0; i < text.length(); i++) {
            due("sign " + i + " of " + text, x.sign(r, i), SIGNS.indexOf(text.charAt(i)));
        }
    }

    static int worthOf(String text) {
        LetterSums x = new LetterSums();
        row(x, 0, text);
        return x.worth(0);
    }

    static int keeps(String rules, String text) {
        LetterSums x = customs(rules);
        row(x, 0, text);
        return x.keeps(0, 0);
    }

    static int begins(String rules, String text) {
        LetterSums x = customs(rules);
        row(x, 0, text);
        return x.begins(0, 0);
    }

    /** Lines, each by the texts of its amount and its total. */
    static LetterSums account(String... texts) {
        LetterSums x = new LetterSums();
        for (int i = 0; i < texts.length; i += 2) {
            addLine(x, texts[i], texts[i + 1]);
        }
        return x;
    }

    static int addLine(LetterSums x, String amount, String total) {
        row(x, 0, amount);
        row(x, 1, total);
        return x.line(0, 1);
    }

    /** Some of a sign are poured in (given), or out (owed); row 11 is used for it. */
    static void pourSome(LetterSums x, int sign, int number, boolean in) {
        for (int left = number; left > 0; left -= 24) {
            row(x, 11, SIGNS.substring(sign, sign + 1).repeat(Math.min(24, left)));
            x.pour(11, in);
        }
    }
}
