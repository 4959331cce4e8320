import java.io.ByteArrayOutputStream;
import java.io.PrintStream;
import java.nio.charset.StandardCharsets;

/** Compares what README.md shows with what is answered; the program that ReadmeProgram makes calls it. */
public final class ReadmeDue {
    private static int shown = 0;
    private static int wrong = 0;

    private ReadmeDue() {
    }

    public static void due(String where, Object got, Object want) {
        shown++;
        if (!want.equals(got)) {
            wrong++;
            System.out.println("README.md, " + where + " answers " + got + ", but it says " + want);
        }
    }

    public static void thrown(String where, Runnable call, Class<?> want) {
        Object got = "nothing thrown";
        try {
            call.run();
        } catch (RuntimeException e) {
            got = e.getClass();
        }
        due(where, got, want);
    }

    public static void prints(String where, Runnable program, String want) {
        PrintStream before = System.out;
        ByteArrayOutputStream printed = new ByteArrayOutputStream();
        System.setOut(new PrintStream(printed, true, StandardCharsets.UTF_8));
        try {
            program.run();
        } finally {
            System.setOut(before);
        }
        due(where, printed.toString(StandardCharsets.UTF_8).replace("\r", ""), want);
    }

    public static void end() {
        System.out.println("README.md: " + (shown - wrong) + " answers as it says, " + wrong + " otherwise");
        System.exit(wrong == 0 && shown > 0 ? 0 : 1);
    }
}
