import java.io.IOException;
import java.lang.reflect.Field;
import java.lang.reflect.Method;
import java.lang.reflect.Modifier;
import java.nio.file.Files;
import java.nio.file.Path;
import java.util.ArrayList;
import java.util.List;
import java.util.Set;
import java.util.TreeSet;
import java.util.regex.Matcher;
import java.util.regex.Pattern;

/** The public face, as the document writes it out, and what of LANGUAGE.md the text and the classes tell; LanguageTest has the rest. */
public final class FaceTest {
    private static final String[] BANNED = {"->", "::", "catch", "throw", "Exact", "synchronized", "assert ", "finally",
        "import ", "System.", "double", "float", "instanceof", "Object", "hashCode", "toString", "yield", "native"};

    private static int wrong = 0;
    private static int checked = 0;

    private static void holds(String rule, boolean is) {
        checked++;
        if (!is) {
            wrong++;
            System.out.println("not so: " + rule);
        }
    }

    private static String told(Method m) {
        List<String> types = new ArrayList<>();
        for (Class<?> type : m.getParameterTypes()) {
            types.add(type.getName());
        }
        return m.getReturnType().getName() + " " + m.getName() + "(" + String.join(", ", types) + ")";
    }

    /** A call as the document writes it, without the names of its parameters. */
    private static String untold(String call) {
        return call.replaceAll("(int|long|boolean) [a-z]+(?=[,)])", "$1");
    }

    private static List<String> found(String pattern, String text) {
        List<String> all = new ArrayList<>();
        Matcher m = Pattern.compile(pattern, Pattern.MULTILINE).matcher(text);
        while (m.find()) {
            all.add(m.group(1));
        }
        return all;
    }

    private static void checkDocument(String text) throws ReflectiveOperationException {
        String face = found("(?s)```java(.*?)```", text).get(0);
        List<String> calls = found("^    public ((?:int|long) .*);$", face);
        List<String> headings = found("^`((?:int|long) .*)`: ", text);
        holds("each call has its promise, in their order", calls.equals(headings) && calls.size() == 37);
        for (String constant : found("([A-Z]+ = -?[0-9]+)", face)) {
            String[] parts = constant.split(" = ");
            holds(constant, LetterSums.class.getField(parts[0]).getInt(null) == Integer.parseInt(parts[1]));
        }
        checkFace(calls);
    }

    private static void checkFace(List<String> calls) {
        Class<?> c = LetterSums.class;
        Set<String> want = new TreeSet<>();
        for (String call : calls) {
            want.add(untold(call));
        }
        Set<String> got = new TreeSet<>();
        Set<String> publicNames = new TreeSet<>();
        for (Method m : c.getDeclaredMethods()) {
            if (Modifier.isPublic(m.getModifiers())) {
                got.add(told(m));
                publicNames.add(m.getName());
            } else {
                holds(m.getName() + " is private", Modifier.isPrivate(m.getModifiers()) || m.isSynthetic());
            }
        }
        holds("the face is " + want + ", not " + got, want.equals(got));
        for (Method m : c.getDeclaredMethods()) {
            holds(m.getName() + " is public or bears another name",
                Modifier.isPublic(m.getModifiers()) || !publicNames.contains(m.getName()));
        }
        holds("it is public and final", Modifier.isPublic(c.getModifiers()) && Modifier.isFinal(c.getModifiers()));
        holds("one constructor", c.getConstructors().length == 1 && c.getDeclaredConstructors().length == 1
            && c.getConstructors()[0].getParameterCount() == 0);
        Set<String> constants = new TreeSet<>();
        for (Field f : c.getDeclaredFields()) {
            if (Modifier.isPublic(f.getModifiers())) {
                constants.add(f.getName());
                holds(f.getName() + " is a constant", Modifier.isStatic(f.getModifiers())
                    && Modifier.isFinal(f.getModifiers()) && f.getType() == int.class);
            } else {
                holds(f.getName() + " is private", Modifier.isPrivate(f.getModifiers()));
            }
        }
        holds("the constants", constants.equals(new TreeSet<>(List.of("NONE", "UNKNOWN", "OUTSIDE", "STATE", "FULL"))));
    }

    private static void checkClasses() {
        List<Class<?>> all = new ArrayList<>(List.of(LetterSums.class.getDeclaredClasses()));
        for (Class<?> c : all) {
            holds(c + " is static", Modifier.isStatic(c.getModifiers()));
            holds(c + " is not seen outside", !Modifier.isPublic(c.getModifiers()) && !Modifier.isProtected(c.getModifiers()));
            holds(c + " has no class inside", c.getDeclaredClasses().length == 0);
        }
        all.add(LetterSums.class);
        holds("at most twelve classes", all.size() <= 12);
        for (Class<?> c : all) {
            int fields = 0;
            for (Field f : c.getDeclaredFields()) {
                boolean isStatic = Modifier.isStatic(f.getModifiers());
                fields += isStatic ? 0 : 1;
                holds(f + " is final or of an object", !isStatic || Modifier.isFinal(f.getModifiers()));
            }
            holds(c + " has at most twenty fields", fields <= 20);
        }
    }

    private static void checkSource(Path path) throws IOException {
        List<String> lines = Files.readAllLines(path);
        for (int i = 0; i < lines.size(); i++) {
            String line = lines.get(i);
            String code = line.trim();
            boolean comment = code.startsWith("*") || code.startsWith("/*") || code.startsWith("//");
            for (String word : BANNED) {
                holds("line " + (i + 1) + " without " + word, comment || !code.contains(word));
            }
            holds("line " + (i + 1) + " has signs 1 to 126 alone", line.chars().allMatch(c -> c >= 32 && c <= 126));
            holds("line " + (i + 1) + " is not too long", line.length() <= 120);
        }
    }

    public static void main(String[] args) throws IOException, ReflectiveOperationException {
        checkDocument(Files.readString(Path.of("../shared/DOC.md")));
        checkClasses();
        checkSource(Path.of("src/main/java/LetterSums.java"));
        System.out.println("FaceTest: " + checked + " rules looked up, " + wrong + " do not hold");
        if (wrong != 0) {
            System.exit(1);
        }
    }
}
