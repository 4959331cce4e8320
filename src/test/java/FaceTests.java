import java.io.IOException;
import java.lang.reflect.Constructor;
import java.lang.reflect.Field;
import java.lang.reflect.Method;
import java.lang.reflect.Modifier;
import java.nio.file.Files;
import java.nio.file.Path;
import java.util.Arrays;
import java.util.List;
import java.util.Set;
import java.util.TreeSet;
import java.util.regex.Matcher;
import java.util.regex.Pattern;
import java.util.stream.Collectors;

/** The class has the document's face and no other, and keeps to rules of LANGUAGE.md that can be looked for. */
final class FaceTests {
    private static final Path SOURCE = Path.of("src/main/java/Formwheel.java");
    private static final Path DOCUMENT = Path.of("../shared/DOC.md");

    private FaceTests() {
    }

    static void face() {
        Expect.same("methods", faceOfClass(), faceOfDocument());
        Expect.so("final and public", Modifier.toString(Formwheel.class.getModifiers()).equals("public final"));
        for (Constructor<?> one : Formwheel.class.getDeclaredConstructors()) {
            Expect.same("constructor", one.toString(), "public Formwheel()");
        }
        Set<String> names = new TreeSet<>();
        for (Method one : Formwheel.class.getDeclaredMethods()) {
            if (Modifier.isPublic(one.getModifiers())) {
                names.add(one.getName());
            }
        }
        onlyPrivateBeside(Formwheel.class);
        for (Class<?> inside : Formwheel.class.getDeclaredClasses()) {
            Expect.so(inside + " is static", Modifier.isStatic(inside.getModifiers()));
            Expect.so(inside + " is not public", !Modifier.isPublic(inside.getModifiers()));
            noneOf(names, inside);
        }
        noneOf(names, Formwheel.class);
    }

    private static void onlyPrivateBeside(Class<?> of) {
        for (Field one : of.getDeclaredFields()) {
            Expect.so(one + " is private", Modifier.isPrivate(one.getModifiers()));
            Expect.so(one + " if static, is final",
                !Modifier.isStatic(one.getModifiers()) || Modifier.isFinal(one.getModifiers()));
        }
        for (Method one : of.getDeclaredMethods()) {
            int kind = one.getModifiers();
            Expect.so(one + " is public or private", Modifier.isPublic(kind) || Modifier.isPrivate(kind));
        }
    }

    private static void noneOf(Set<String> names, Class<?> of) {
        for (Method one : of.getDeclaredMethods()) {
            if (!Modifier.isPublic(one.getModifiers())) {
                Expect.so(one + " bears no public name", !names.contains(one.getName()));
            }
        }
    }

    private static String faceOfClass() {
        Set<String> rows = new TreeSet<>();
        for (Method one : Formwheel.class.getDeclaredMethods()) {
            if (Modifier.isPublic(one.getModifiers())) {
                String thrown = Arrays.stream(one.getExceptionTypes()).map(Class::getSimpleName)
                    .collect(Collectors.joining(", "));
                String given = Arrays.stream(one.getParameterTypes()).map(Class::getSimpleName)
                    .collect(Collectors.joining(", "));
                rows.add(one.getReturnType().getSimpleName() + " " + one.getName() + "(" + given + ")"
                    + (thrown.isEmpty() ? "" : " throws " + thrown));
            }
        }
        return String.join("\n", rows);
    }

    private static String faceOfDocument() {
        Set<String> rows = new TreeSet<>();
        Pattern method = Pattern.compile("    public (\\w+) (\\w+)\\((.*)\\)(| throws .*);");
        for (String line : linesOf(DOCUMENT)) {
            Matcher m = method.matcher(line);
            if (m.matches()) {
                String given = Arrays.stream(m.group(3).split(", ")).map(p -> p.split(" ")[0])
                    .collect(Collectors.joining(", "));
                rows.add(m.group(1) + " " + m.group(2) + "(" + given + ")" + m.group(4));
            }
        }
        return String.join("\n", rows);
    }

    /** Words that rules 2, 4, 6 and 10 rule out, wherever they stand in the file. */
    static void library() {
        List<String> barred = List.of("import ", "->", "::", "finally", "synchronized", "assert ", "Exact(",
            "catch", "System.out", "String.format", "MAX_VALUE", "MIN_VALUE", "Arrays.sort", "\" +", "+ \"",
            "random", "currentTime", "nanoTime", "Thread", "native ", "volatile ", "strictfp");
        int number = 0;
        for (String line : linesOf(SOURCE)) {
            number++;
            for (String word : barred) {
                Expect.so("line " + number + " without " + word, !line.contains(word));
            }
        }
        Expect.so("the file was read", number > 100);
    }

    private static List<String> linesOf(Path file) {
        try {
            return Files.readAllLines(file);
        } catch (IOException e) {
            throw new IllegalStateException("cannot read " + file, e);
        }
    }
}
