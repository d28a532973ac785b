import java.io.IOException;
import java.lang.reflect.Constructor;
import java.lang.reflect.Executable;
import java.lang.reflect.Field;
import java.lang.reflect.Method;
import java.lang.reflect.Modifier;
import java.nio.file.Files;
import java.nio.file.Path;
import java.util.ArrayList;
import java.util.List;
import java.util.Set;
import java.util.TreeSet;

/** The public face of the document, and those rules of LANGUAGE.md that can be looked up. */
public final class FaceTest {
    private static final String[] FACE = {
        "int letters(long)", "int blank()", "int good()", "int custom()", "int asks(int, int, int)",
        "int row(int)", "int sign(int, int)", "int worth(int)", "int keeps(int, int)", "int begins(int, int)",
        "int ways(int, int)", "int write(int, int, int, int)", "int board(int, int)", "int pour(int, boolean)",
        "int bundle(int)", "int unbundle(int)", "int settle()", "int step(int)", "int holds()", "int lift(int)",
        "int sweep()", "int times(int, int, int)", "int parts(int, int, int)", "int stone()", "int could(int)",
        "int says(int, int)", "int sure(int, int)", "int note(int, int)", "int habit(int)", "int hands(int)",
        "int line(int, int)", "int tear()", "int wrong()", "int mended()", "int slip(int)", "int count(int)",
        "long digest()"};
    private static final String[] BANNED = {"->", "::", "catch", "throw", "Exact", "synchronized", "assert ", "finally",
        "import ", "System.", "double", "float", "instanceof", "Object", "hashCode", "toString", "yield", "native"};

    private static int wrong = 0;
    private static int checked = 0;

    private static void holds(String rule, boolean is) {
        checked++;
        if (!is) {
            wrong++;
            System.out.println("not so: " + rule);
        }
    }

    private static String told(Method m) {
        List<String> types = new ArrayList<>();
        for (Class<?> type : m.getParameterTypes()) {
            types.add(type.getName());
        }
        return m.getReturnType().getName() + " " + m.getName() + "(" + String.join(", ", types) + ")";
    }

    private static void checkFace() {
        Class<?> c = LetterSums.class;
        Set<String> want = new TreeSet<>(List.of(FACE));
        Set<String> got = new TreeSet<>();
        Set<String> publicNames = new TreeSet<>();
        for (Method m : c.getDeclaredMethods()) {
            if (Modifier.isPublic(m.getModifiers())) {
                got.add(told(m));
                publicNames.add(m.getName());
            } else {
                holds(m.getName() + " is private", Modifier.isPrivate(m.getModifiers()) || m.isSynthetic());
            }
        }
        holds("the face is " + want + ", not " + got, want.equals(got));
        for (Method m : c.getDeclaredMethods()) {
            holds(m.getName() + " is public or bears another name",
                Modifier.isPublic(m.getModifiers()) || !publicNames.contains(m.getName()));
        }
        holds("it is public and final", Modifier.isPublic(c.getModifiers()) && Modifier.isFinal(c.getModifiers()));
        holds("one constructor", c.getConstructors().length == 1 && c.getDeclaredConstructors().length == 1
            && c.getConstructors()[0].getParameterCount() == 0);
        Set<String> constants = new TreeSet<>();
        for (Field f : c.getDeclaredFields()) {
            if (Modifier.isPublic(f.getModifiers())) {
                constants.add(f.getName());
                holds(f.getName() + " is a constant", Modifier.isStatic(f.getModifiers())
                    && Modifier.isFinal(f.getModifiers()) && f.getType() == int.class);
            } else {
                holds(f.getName() + " is private", Modifier.isPrivate(f.getModifiers()));
            }
        }
        holds("the constants", constants.equals(new TreeSet<>(List.of("NONE", "UNKNOWN", "OUTSIDE", "STATE", "FULL"))));
    }

    private static void checkClasses() {
        List<Class<?>> all = new ArrayList<>(List.of(LetterSums.class.getDeclaredClasses()));
        for (Class<?> c : all) {
            holds(c + " is static", Modifier.isStatic(c.getModifiers()));
            holds(c + " is not seen outside", !Modifier.isPublic(c.getModifiers()) && !Modifier.isProtected(c.getModifiers()));
            holds(c + " has no class inside", c.getDeclaredClasses().length == 0);
        }
        all.add(LetterSums.class);
        holds("at most twelve classes", all.size() <= 12);
        for (Class<?> c : all) {
            int fields = 0;
            for (Field f : c.getDeclaredFields()) {
                boolean isStatic = Modifier.isStatic(f.getModifiers());
                fields += isStatic ? 0 : 1;
                holds(f + " is final or of an object", !isStatic || Modifier.isFinal(f.getModifiers()));
            }
            holds(c + " has at most twenty fields", fields <= 20);
            List<Executable> calls = new ArrayList<>(List.of(c.getDeclaredMethods()));
            for (Constructor<?> constructor : c.getDeclaredConstructors()) {
                calls.add(constructor);
            }
            for (Executable call : calls) {
                holds(call + " takes at most seven", call.getParameterCount() <= 7);
            }
        }
    }

    private static void checkSource(Path path) throws IOException {
        List<String> lines = Files.readAllLines(path);
        int start = 0;
        for (int i = 0; i < lines.size(); i++) {
            String line = lines.get(i);
            String code = line.trim();
            boolean comment = code.startsWith("*") || code.startsWith("/*") || code.startsWith("//");
            for (String word : BANNED) {
                holds("line " + (i + 1) + " without " + word, comment || !code.contains(word));
            }
            holds("line " + (i + 1) + " has signs 1 to 126 alone", line.chars().allMatch(c -> c >= 32 && c <= 126));
            holds("line " + (i + 1) + " is not too long", line.length() <= 120);
            if (code.endsWith("{") && code.contains("(") && code.matches("(public|private) .*")) {
                start = i;
            }
            if (line.matches("( {4}| {8})}")) {
                holds("the method at line " + (start + 1) + " is short", i - start <= 60 || line.startsWith("    }"));
            }
        }
    }

    public static void main(String[] args) throws IOException {
        checkFace();
        checkClasses();
        checkSource(Path.of("src/main/java/LetterSums.java"));
        System.out.println("FaceTest: " + checked + " rules looked up, " + wrong + " do not hold");
        if (wrong != 0) {
            System.exit(1);
        }
    }
}
