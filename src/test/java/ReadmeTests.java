import java.lang.reflect.Method;
import java.lang.reflect.Modifier;
import java.nio.file.Files;
import java.nio.file.Path;
import java.util.Set;
import java.util.TreeSet;

/** README.md leaves nothing out; whether its answers are right, the program of ReadmeProgram tells. */
final class ReadmeTests {
    private ReadmeTests() {
    }

    static void methodsAreShown() {
        Set<String> due = new TreeSet<>();
        for (Method one : Formwheel.class.getDeclaredMethods()) {
            if (Modifier.isPublic(one.getModifiers())) {
                due.add(one.getName());
            }
        }
        Expect.same("methods with an answer in README.md", ReadmeProgram.methodsShown(), due);
    }

    static void filesAreNamed() {
        Set<String> named = new TreeSet<>(ReadmeProgram.filesNamed());
        for (String file : Pages.namesIn(Pages.TESTS)) {
            Expect.so("README.md names " + file, named.remove(file));
        }
        // What is left is the program that README.md shows whole.
        Expect.same("other files", named.toString(), "[Parts.java]");
    }

    static void howToRun() {
        String page = String.join("\n", Pages.linesOf(Pages.README));
        Expect.so("how to run the tests", page.contains("\n    bash .ci/run\n"));
        Expect.so("that can be run", Files.isExecutable(Path.of(".ci/run")));
        Expect.so("how to compile the class", page.contains("\n    javac -d build/use " + Pages.SOURCE + " "));
        for (Class<?> inside : Formwheel.class.getDeclaredClasses()) {
            Expect.so("README.md tells of " + inside.getSimpleName(), page.contains("`" + inside.getSimpleName() + "`"));
        }
    }
}
