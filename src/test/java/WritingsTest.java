import java.util.List;
import java.util.Random;

/** Rich customs, whose numbers have many writings: how many, which, the shortest of the first 5000. */
public final class WritingsTest {
    private static int wrong = 0;
    private static int checked = 0;
    private static int full = 0;

    private static void due(String call, long got, long want) {
        checked++;
        if (got != want) {
            wrong++;
            System.out.println(call + " answered " + got + ", due is " + want);
        }
    }

    private static void feed(LetterSums x, String text) {
        for (int i = 0; i < text.length(); i += 8) {
            long w = 0;
            for (int j = Math.min(text.length(), i + 8) - 1; j >= i; j--) {
                w = w << 8 | text.charAt(j);
            }
            x.letters(w);
        }
    }

    private static String richCustom(Random random) {
        StringBuilder s = new StringBuilder();
        if (random.nextBoolean()) {
            s.append("I9,V9,X9,L9,C9,D9,M9").append(random.nextBoolean() ? ",i9,v9,x9,l9,c9,d9,m9" : "");
        }
        for (int i = 0; i < 60; i++) {
            int a = random.nextInt(14);
            String rule = "" + Plain.SIGNS.charAt(a);
            if (random.nextInt(3) == 0) {
                rule += random.nextInt(9) + 1;
            } else {
                int times = 1 + random.nextInt(2);
                String heads = "";
                for (int b = 0; b < 14; b++) {
                    if (Plain.WORTH[b] > times * Plain.WORTH[a] && random.nextInt(3) > 0) {
                        heads += Plain.SIGNS.charAt(b);
                    }
                }
                rule += heads.isEmpty() ? "5" : (times == 1 ? "<" : "<<") + heads;
            }
            if (s.length() + rule.length() < 80) {
                s.append(s.length() == 0 ? "" : ",").append(rule);
            }
        }
        return s.toString();
    }

    private static String rowOf(LetterSums x, int r) {
        StringBuilder s = new StringBuilder();
        for (int i = 0; x.sign(r, i) >= 0; i++) {
            s.append(Plain.SIGNS.charAt(x.sign(r, i)));
        }
        return s.toString();
    }

    private static int someWorth(Plain.Rule rule, Random random) {
        int sum = 0;
        int below = 14;
        int signs = 24;
        for (int head = 13; head >= 0; head--) {
            int plain = Math.min(signs, rule.count[head] == 0 ? 0 : random.nextInt(rule.count[head] + 1) / 2);
            if (head < below && signs > 0) {
                sum += plain * Plain.WORTH[head];
                signs -= plain;
                int a = head == 0 ? 0 : random.nextInt(head);
                if (signs > 1 && rule.once[a][head]) {
                    sum += Plain.WORTH[head] - Plain.WORTH[a];
                    signs -= 2;
                    below = a;
                }
            }
        }
        return sum;
    }

    private static void check(String text, int n, int i) {
        Plain.Rule rule = Plain.readCustom(text);
        LetterSums x = new LetterSums();
        feed(x, text);
        due("custom() of " + text, x.custom(), 0);
        List<String> all = new Plain().writings(rule, n);
        full += all.size() == 5000 ? 1 : 0;
        String call = text + ", n " + n;
        due(call + ": ways", x.ways(0, n), all.size());
        if (all.isEmpty()) {
            due(call + ": none", x.write(0, 0, n, -1), 0);
            return;
        }
        String shortest = all.get(0);
        for (String s : all) {
            shortest = s.length() < shortest.length() ? s : shortest;
        }
        due(call + ": shortest", x.write(1, 0, n, -1), shortest.length());
        due(call + ": shortest is " + shortest + ", not " + rowOf(x, 1), rowOf(x, 1).equals(shortest) ? 1 : 0, 1);
        for (int at : new int[] {0, i % all.size(), all.size() / 2, all.size() - 1}) {
            due(call + ": write " + at, x.write(2, 0, n, at), all.get(at).length());
            due(call + ": " + at + " is " + all.get(at) + ", not " + rowOf(x, 2), rowOf(x, 2).equals(all.get(at)) ? 1 : 0, 1);
            due(call + ": keeps", x.keeps(2, 0), 1);
            due(call + ": worth", x.worth(2), n);
        }
        due(call + ": behind the last", x.write(2, 0, n, all.size()), 0);
    }

    public static void main(String[] args) {
        Random random = new Random(args.length > 0 ? Long.parseLong(args[0]) : 7);
        for (int i = 0; i < 1000; i++) {
            String text = richCustom(random);
            int n = someWorth(Plain.readCustom(text), random);
            n = random.nextInt(4) == 0 ? n % 5000 : n;
            check(text, Math.max(1, Math.min(9999999, n)), random.nextInt(5000));
        }
        System.out.println("WritingsTest: " + checked + " answers (" + full + " numbers of 5000 writings), "
            + wrong + " are not as due");
        if (wrong != 0) {
            System.exit(1);
        }
    }
}
