import java.util.List;
import java.util.function.BiConsumer;
import java.util.function.Consumer;
import java.util.function.Function;
import java.util.function.Supplier;

/** Compares answers with those that are due, and counts the wrong ones of the test that runs. */
final class Expect {
    private static int wrong = 0;

    private Expect() {
    }

    static int wrongSoFar() {
        return wrong;
    }

    static void same(String what, Object got, Object want) {
        if (!want.equals(got)) {
            wrong++;
            System.out.println("  " + what + " answered " + got + ", due is " + want);
        }
    }

    static void so(String what, boolean isSo) {
        same(what, isSo, true);
    }

    /** An act that is done: its answer, and one more act. */
    static void act(String what, Formwheel x, Function<Formwheel, Integer> call, int want) {
        int acts = x.house(0);
        int refusals = x.house(1);
        same(what, call.apply(x), want);
        same(what + ", acts", x.house(0), acts + 1);
        same(what + ", refusals", x.house(1), refusals);
    }

    /** An act that is done: its answer, one more act, these lines of Look that are other ones, and no others. */
    static void does(String what, Supplier<Formwheel> made, Function<Formwheel, Integer> call, int want,
            String... changes) {
        Formwheel x = made.get();
        List<String> due = Look.with(Look.lines(x), changes);
        due = Look.with(due, "acts: " + (x.house(0) + 1));
        same(what, call.apply(x), want);
        same(what + ", what is there", Look.lines(x), due);
    }

    /** What is asked: its answer, and nothing is other then. */
    static void asked(String what, Supplier<Formwheel> made, Function<Formwheel, Object> call, Object want) {
        Formwheel x = made.get();
        String before = Look.at(x);
        same(what, call.apply(x), want);
        same(what + ", asked again", call.apply(x), want);
        same(what + ", what is there", Look.at(x), before);
    }

    /** An act that is refused: -9, one more refusal, and nothing else is other then. */
    static void refused(String what, Supplier<Formwheel> made, Function<Formwheel, Integer> call) {
        Formwheel x = made.get();
        String before = Look.withoutRefusals(x);
        int refusals = x.house(1);
        same(what, call.apply(x), -9);
        same(what + ", refusals", x.house(1), refusals + 1);
        same(what + ", what is there", Look.withoutRefusals(x), before);
    }

    static void index(String what, Supplier<Formwheel> made, Consumer<Formwheel> call) {
        thrown(what, made, call, IndexOutOfBoundsException.class);
    }

    static void argument(String what, Supplier<Formwheel> made, Consumer<Formwheel> call) {
        thrown(what, made, call, IllegalArgumentException.class);
    }

    /** No number but 0 to 5 is a form's, whatever is there else. */
    static void formsOnly(String what, BiConsumer<Formwheel, Integer> call) {
        for (Supplier<Formwheel> made : Made.unlike()) {
            for (int form : new int[] {-1, 6, 64, Integer.MIN_VALUE, Integer.MAX_VALUE}) {
                index(what + " with the form " + form, made, f -> call.accept(f, form));
            }
            for (int form = 0; form < 6; form++) {
                int right = form;
                runs(what + " with the form " + form, made, f -> call.accept(f, right));
            }
        }
    }

    /** None of these numbers is a place, a form or one of the roll, whatever is there else. */
    static void notIndexes(String what, BiConsumer<Formwheel, Integer> call, int... wrong) {
        for (Supplier<Formwheel> made : Made.unlike()) {
            for (int number : wrong) {
                index(what + " with " + number, made, f -> call.accept(f, number));
            }
        }
    }

    /** None of these numbers is in its range, whatever is there else. */
    static void notArguments(String what, BiConsumer<Formwheel, Integer> call, int... wrong) {
        for (Supplier<Formwheel> made : Made.unlike()) {
            for (int number : wrong) {
                argument(what + " with " + number, made, f -> call.accept(f, number));
            }
        }
    }

    /** Each of these numbers is in its range: nothing is thrown. */
    static void right(String what, BiConsumer<Formwheel, Integer> call, int... right) {
        for (Supplier<Formwheel> made : Made.unlike()) {
            for (int number : right) {
                runs(what + " with " + number, made, f -> call.accept(f, number));
            }
        }
    }

    static void runs(String what, Supplier<Formwheel> made, Consumer<Formwheel> call) {
        Object got = "nothing";
        try {
            call.accept(made.get());
        } catch (RuntimeException e) {
            got = e.getClass();
        }
        same(what + " throws", got, "nothing");
    }

    private static void thrown(String what, Supplier<Formwheel> made, Consumer<Formwheel> call, Class<?> want) {
        Formwheel x = made.get();
        String before = Look.at(x);
        Object got = "nothing";
        try {
            call.accept(x);
        } catch (RuntimeException e) {
            got = e.getClass();
        }
        same(what + " throws", got, want);
        same(what + ", what is there", Look.at(x), before);
    }
}
