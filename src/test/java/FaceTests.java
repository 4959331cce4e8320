import java.lang.reflect.Constructor;
import java.lang.reflect.Field;
import java.lang.reflect.Method;
import java.lang.reflect.Modifier;
import java.util.Arrays;
import java.util.List;
import java.util.Set;
import java.util.TreeSet;
import java.util.regex.Matcher;
import java.util.regex.Pattern;
import java.util.stream.Collectors;

/** The class has the document's face and no other, and keeps to rules of LANGUAGE.md that can be looked for. */
final class FaceTests {
    private FaceTests() {
    }

    // ==== the face, as the machine sees it

    static void face() {
        Expect.same("methods", faceOfClass(), faceOfDocument());
        Expect.so("final and public", Modifier.toString(Formwheel.class.getModifiers()).equals("public final"));
        Expect.same("what it extends", Formwheel.class.getSuperclass(), Object.class);
        Expect.same("what it implements", Formwheel.class.getInterfaces().length, 0);
        for (Constructor<?> one : Formwheel.class.getDeclaredConstructors()) {
            Expect.same("constructor", one.toString(), "public Formwheel()");
        }
        Set<String> names = new TreeSet<>();
        for (Method one : Formwheel.class.getDeclaredMethods()) {
            if (Modifier.isPublic(one.getModifiers())) {
                names.add(one.getName());
            }
        }
        onlyPrivateBeside(Formwheel.class);
        for (Class<?> inside : Formwheel.class.getDeclaredClasses()) {
            Expect.so(inside + " is static", Modifier.isStatic(inside.getModifiers()));
            Expect.so(inside + " is not public", !Modifier.isPublic(inside.getModifiers()));
            Expect.so(inside + " is not protected", !Modifier.isProtected(inside.getModifiers()));
            noneOf(names, inside);
        }
        noneOf(names, Formwheel.class);
    }

    private static void onlyPrivateBeside(Class<?> of) {
        for (Field one : of.getDeclaredFields()) {
            Expect.so(one + " is private", Modifier.isPrivate(one.getModifiers()));
            Expect.so(one + " if static, is final",
                !Modifier.isStatic(one.getModifiers()) || Modifier.isFinal(one.getModifiers()));
        }
        for (Method one : of.getDeclaredMethods()) {
            int kind = one.getModifiers();
            Expect.so(one + " is public or private", Modifier.isPublic(kind) || Modifier.isPrivate(kind));
            Expect.so(one + " if public, is an object's", !Modifier.isPublic(kind) || !Modifier.isStatic(kind));
        }
    }

    private static void noneOf(Set<String> names, Class<?> of) {
        for (Method one : of.getDeclaredMethods()) {
            if (!Modifier.isPublic(one.getModifiers())) {
                Expect.so(one + " bears no public name", !names.contains(one.getName()));
            }
        }
    }

    private static String faceOfClass() {
        Set<String> rows = new TreeSet<>();
        for (Method one : Formwheel.class.getDeclaredMethods()) {
            if (Modifier.isPublic(one.getModifiers())) {
                rows.add(one.getReturnType().getSimpleName() + " " + one.getName() + "("
                    + namesOf(one.getParameterTypes(), "") + ")" + namesOf(one.getExceptionTypes(), " throws "));
            }
        }
        return String.join("\n", rows);
    }

    private static String namesOf(Class<?>[] types, String ahead) {
        return types.length == 0 ? ""
            : Arrays.stream(types).map(Class::getSimpleName).collect(Collectors.joining(", ", ahead, ""));
    }

    private static String faceOfDocument() {
        Set<String> rows = new TreeSet<>();
        Pattern method = Pattern.compile("public (\\w+) (\\w+)\\((.*)\\)(| throws .*)");
        for (String head : headsOfDocument()) {
            Matcher m = method.matcher(head);
            if (m.matches()) {
                String given = Arrays.stream(m.group(3).split(", ")).map(p -> p.split(" ")[0])
                    .collect(Collectors.joining(", "));
                rows.add(m.group(1) + " " + m.group(2) + "(" + given + ")" + m.group(4));
            }
        }
        return String.join("\n", rows);
    }

    // ==== the heads, word by word

    /** Names of parameters, too; and a constant, if the document had one. */
    static void heads() {
        Set<String> due = headsOfDocument();
        Expect.same("heads", String.join("\n", headsOfSource()), String.join("\n", due));
        Expect.same("how many", due.size(), 1 + 51);
    }

    private static Set<String> headsOfDocument() {
        Set<String> heads = new TreeSet<>();
        for (String line : Pages.blocksOf(Pages.DOCUMENT, "java").get(0)) {
            if (!line.isBlank() && !line.equals("}")) {
                heads.add(line.trim().replaceAll(";$| \\{$", ""));
            }
        }
        return heads;
    }

    private static Set<String> headsOfSource() {
        Set<String> heads = new TreeSet<>();
        Matcher head = Pattern.compile("\\b(public|protected)\\b[^{;]*").matcher(codeOfSource());
        while (head.find()) {
            heads.add(head.group().trim().replaceAll("\\s+", " "));
        }
        return heads;
    }

    /** The line below the heading of each promise is one of the heads, and each head has its promise. */
    static void promises() {
        Set<String> told = new TreeSet<>();
        told.add("public final class Formwheel");
        String heading = "";
        int number = 0;
        for (String line : Pages.linesOf(Pages.DOCUMENT)) {
            if (line.startsWith("## ")) {
                heading = line;
                number += line.startsWith("## Promise ") ? 1 : 0;
            } else if (heading.startsWith("## Promise " + number + ": ") && line.matches("`.*\\)`|`.*\\) throws .*`")) {
                told.add("public " + line.replace("`", ""));
                heading = "";
            }
        }
        Expect.same("promises", number, 51);
        Expect.same("their heads", String.join("\n", told), String.join("\n", headsOfDocument()));
    }

    // ==== what LANGUAGE.md says, as far as it can be seen from the words

    /** The words of the file without its comments. */
    private static String codeOfSource() {
        StringBuilder code = new StringBuilder();
        for (String line : Pages.linesOf(Pages.SOURCE)) {
            String words = line.trim();
            boolean isComment = words.startsWith("//") || words.startsWith("/*") || words.startsWith("*");
            code.append(isComment ? "" : line).append('\n');
        }
        return code.toString();
    }

    /** Words that rules 2, 4, 6 and 10 rule out, wherever they stand in the file. */
    static void library() {
        List<String> barred = List.of("import ", "->", "::", "finally", "synchronized", "assert ", "Exact(",
            "catch", "System.out", "String.format", "MAX_VALUE", "MIN_VALUE", "Arrays.sort", "\" +", "+ \"",
            "random", "currentTime", "nanoTime", "Thread", "native ", "volatile ", "strictfp");
        int number = 0;
        for (String line : Pages.linesOf(Pages.SOURCE)) {
            number++;
            for (String word : barred) {
                Expect.so("line " + number + " without " + word, !line.contains(word));
            }
            Expect.so("line " + number + " of signs 32 to 126", line.matches("[ -~]*"));
        }
        Expect.so("the file was read", number > 100);
        each("[A-Z]\\w*\\.\\w+(?=\\()", "(Integer|Long|Math)\\.(compare|max|min|abs|bitCount|floorDiv|floorMod)"
            + "|System\\.arraycopy|Arrays\\.(copyOf|copyOfRange|fill)|(" + classesInside() + ")\\.\\w+");
        each("new [\\w\\[]+", "new (long|int)\\[\\w+|new (StringBuilder|" + classesInside() + ")"
            + "|new (IndexOutOfBounds|IllegalArgument)Exception");
        each("throw .*", "throw new \\w+\\(\"[^\"]*\"\\);");
    }

    private static String classesInside() {
        return Arrays.stream(Formwheel.class.getDeclaredClasses()).map(Class::getSimpleName)
            .collect(Collectors.joining("|"));
    }

    /** Each place of the file that is so, is one of those that may be. */
    private static void each(String so, String allowed) {
        Matcher found = Pattern.compile("\\b" + so).matcher(codeOfSource());
        int many = 0;
        while (found.find()) {
            many++;
            Expect.so(found.group() + " may stand there", found.group().matches(allowed));
        }
        Expect.so("there are some of " + so, many > 0);
    }

    /** Rule 11. */
    static void sizes() {
        Class<?>[] inside = Formwheel.class.getDeclaredClasses();
        Expect.so("classes", inside.length + 1 <= 12);
        smallEnough(Formwheel.class);
        for (Class<?> one : inside) {
            smallEnough(one);
        }
        List<String> lines = List.of(codeOfSource().split("\n"));
        for (int from = 0; from < lines.size(); from++) {
            Matcher head = Pattern.compile("( {4}| {8})[^ }].*\\(.*").matcher(lines.get(from));
            if (head.matches() && !head.group().endsWith(";")) {
                List<String> behind = lines.subList(from, lines.size());
                Expect.so("at most 60 lines: " + head.group(), behind.indexOf(head.group(1) + "}") < 60);
            }
        }
    }

    private static void smallEnough(Class<?> of) {
        int fields = 0;
        for (Field one : of.getDeclaredFields()) {
            fields += Modifier.isStatic(one.getModifiers()) ? 0 : 1;
        }
        Expect.so("fields of " + of, fields <= 20);
        for (Method one : of.getDeclaredMethods()) {
            Expect.so("parameters of " + one, one.getParameterCount() <= 7);
        }
    }
}
