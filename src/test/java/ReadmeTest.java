import java.io.IOException;
import java.lang.reflect.Method;
import java.lang.reflect.Modifier;
import java.nio.file.Files;
import java.nio.file.Path;
import java.util.List;
import java.util.Set;
import java.util.TreeSet;
import java.util.regex.Matcher;
import java.util.regex.Pattern;
import java.util.stream.Collectors;
import java.util.stream.Stream;

/** What README.md says is so: its examples, run one behind the other, and the calls and tests that its tables name. */
public final class ReadmeTest extends Bench {
    private static final Pattern CALL = Pattern.compile("x\\.(\\w+)\\((.*)\\); +// (-?\\d+)(: .*)?");
    private static final Pattern PUT = Pattern.compile("put\\(x, \"(.*)\"\\);");

    public static void main(String[] args) throws IOException, ReflectiveOperationException {
        List<String> lines = Files.readAllLines(Path.of("README.md"));
        runExamples(lines);
        checkCalls(lines);
        checkTests(lines);
        report("ReadmeTest");
    }

    private static void runExamples(List<String> lines) throws ReflectiveOperationException {
        LetterSums x = new LetterSums();
        int run = 0;
        for (String line : lines) {
            Matcher call = CALL.matcher(line);
            Matcher put = PUT.matcher(line);
            if (call.matches()) {
                run++;
                due(line, answer(x, call.group(1), call.group(2)), Long.parseLong(call.group(3)));
            } else if (put.matches()) {
                // the README's own way: behind what stands on the page
                due("the page ahead of " + line, x.count(1), 0);
                page(x, put.group(1));
            } else {
                due("an example that is not run: " + line, line.startsWith("x.") || line.startsWith("put(") ? 1 : 0, 0);
            }
        }
        due("examples", run >= 40 ? 1 : 0, 1);
    }

    private static long answer(LetterSums x, String name, String args) throws ReflectiveOperationException {
        for (Method method : LetterSums.class.getMethods()) {
            if (method.getName().equals(name)) {
                String[] texts = args.isEmpty() ? new String[0] : args.split(", ");
                Object[] values = new Object[texts.length];
                for (int i = 0; i < texts.length; i++) {
                    values[i] = value(method.getParameterTypes()[i], texts[i]);
                }
                return ((Number) method.invoke(x, values)).longValue();
            }
        }
        return Long.MIN_VALUE;
    }

    private static Object value(Class<?> type, String text) {
        if (type == boolean.class) {
            return Boolean.valueOf(text);
        }
        if (type == long.class) {
            return Long.decode(text.replace("L", ""));
        }
        return Integer.valueOf(text);
    }

    /** Names in the first column of the tables. */
    private static Set<String> named(List<String> lines) {
        Set<String> all = new TreeSet<>();
        for (String line : lines) {
            if (line.startsWith("| `")) {
                Matcher m = Pattern.compile("`(\\w+)`").matcher(line.split(" \\| ")[0]);
                while (m.find()) {
                    all.add(m.group(1));
                }
            }
        }
        return all;
    }

    private static void checkCalls(List<String> lines) {
        Set<String> calls = new TreeSet<>();
        for (Method method : LetterSums.class.getDeclaredMethods()) {
            if (Modifier.isPublic(method.getModifiers())) {
                calls.add(method.getName());
            }
        }
        Set<String> told = named(lines).stream().filter(s -> !s.endsWith("Test")).collect(Collectors.toCollection(TreeSet::new));
        due("the calls are " + calls + ", told are " + told, told.equals(calls) ? 1 : 0, 1);
    }

    private static void checkTests(List<String> lines) throws IOException {
        Set<String> tests;
        try (Stream<Path> files = Files.list(Path.of("src/test/java"))) {
            tests = files.map(p -> p.getFileName().toString().replace(".java", "")).filter(s -> s.endsWith("Test"))
                .collect(Collectors.toCollection(TreeSet::new));
        }
        Set<String> told = named(lines).stream().filter(s -> s.endsWith("Test")).collect(Collectors.toCollection(TreeSet::new));
        due("the tests are " + tests + ", told are " + told, told.equals(tests) ? 1 : 0, 1);
    }
}
