import java.io.IOException;
import java.nio.file.Files;
import java.nio.file.Path;
import java.util.ArrayList;
import java.util.List;
import java.util.Set;
import java.util.TreeSet;
import java.util.regex.Matcher;
import java.util.regex.Pattern;

/** Makes programs of what README.md shows: those that it shows whole, and one that asks for each answer it shows. */
public final class ReadmeProgram {
    private static final Pattern WHOLE = Pattern.compile("public class (\\w+) \\{");
    private static final Pattern MADE = Pattern.compile("Formwheel x = new Formwheel\\(\\);");
    private static final Pattern CALL = Pattern.compile("(x\\.(\\w+)\\([^;]*\\)); +// (\"[^\"]*\"|throws \\w+|[^: ]+): .+");

    private ReadmeProgram() {
    }

    /** Into which folder the programs go. */
    public static void main(String[] args) throws IOException {
        Path folder = Path.of(args[0]);
        Files.createDirectories(folder);
        StringBuilder body = new StringBuilder();
        List<List<String>> printed = Pages.blocksOf(Pages.README, "text");
        int programs = 0;
        for (List<String> block : Pages.blocksOf(Pages.README, "java")) {
            Matcher whole = WHOLE.matcher(block.get(0));
            if (whole.matches()) {
                String name = whole.group(1);
                Files.write(folder.resolve(name + ".java"), block);
                body.append(askingProgram(name, printed.get(programs)));
                programs++;
            } else {
                body.append(askingCalls(block));
            }
        }
        Files.writeString(folder.resolve("ReadmeAnswers.java"), "public final class ReadmeAnswers {\n"
            + "    public static void main(String[] args) {\n" + body + "        ReadmeDue.end();\n    }\n}\n");
    }

    private static String askingProgram(String name, List<String> printed) {
        return "        ReadmeDue.prints(\"" + name + "\", () -> " + name + ".main(new String[0]), "
            + quoted(String.join("\n", printed) + "\n") + ");\n";
    }

    private static String askingCalls(List<String> block) {
        StringBuilder body = new StringBuilder("        {\n");
        for (String line : block) {
            Matcher call = CALL.matcher(line);
            if (call.matches()) {
                body.append("            ").append(asking(call.group(1), call.group(3))).append('\n');
            } else if (MADE.matcher(line).matches()) {
                body.append("            ").append(line).append('\n');
            } else {
                throw new IllegalStateException("README.md shows no answer of: " + line);
            }
        }
        return body.append("        }\n").toString();
    }

    private static String asking(String call, String answer) {
        if (answer.startsWith("throws ")) {
            return "ReadmeDue.thrown(" + quoted(call) + ", () -> " + call + ", "
                + answer.substring("throws ".length()) + ".class);";
        }
        return "ReadmeDue.due(" + quoted(call) + ", " + call + ", " + answer + ");";
    }

    private static String quoted(String text) {
        return '"' + text.replace("\\", "\\\\").replace("\"", "\\\"").replace("\n", "\\n") + '"';
    }

    /** The methods of which README.md shows an answer that is no exception. */
    static Set<String> methodsShown() {
        Set<String> names = new TreeSet<>();
        for (List<String> block : Pages.blocksOf(Pages.README, "java")) {
            for (String line : block) {
                Matcher call = CALL.matcher(line);
                if (call.matches() && !call.group(3).startsWith("throws ")) {
                    names.add(call.group(2));
                }
            }
        }
        return names;
    }

    /** The names of Java files, without a folder, that README.md puts in strokes. */
    static List<String> filesNamed() {
        List<String> names = new ArrayList<>();
        for (String line : Pages.linesOf(Pages.README)) {
            Matcher name = Pattern.compile("`(\\w+\\.java)`").matcher(line);
            while (name.find()) {
                names.add(name.group(1));
            }
        }
        return names;
    }
}
