import java.util.function.Consumer;
import java.util.function.Function;
import java.util.function.Supplier;

/** Compares answers with those that are due, and counts the wrong ones of the test that runs. */
final class Expect {
    private static int wrong = 0;

    private Expect() {
    }

    static int wrongSoFar() {
        return wrong;
    }

    static void same(String what, Object got, Object want) {
        if (!want.equals(got)) {
            wrong++;
            System.out.println("  " + what + " answered " + got + ", due is " + want);
        }
    }

    static void so(String what, boolean isSo) {
        same(what, isSo, true);
    }

    /** An act that is done: its answer, one more act, and what the object is like then. */
    static void act(String what, Formwheel x, Function<Formwheel, Integer> call, int want) {
        int acts = x.house(0);
        int refusals = x.house(1);
        same(what, call.apply(x), want);
        same(what + ", acts", x.house(0), acts + 1);
        same(what + ", refusals", x.house(1), refusals);
    }

    /** What is asked: its answer, and nothing is other then. */
    static void asked(String what, Supplier<Formwheel> made, Function<Formwheel, Object> call, Object want) {
        Formwheel x = made.get();
        String before = Look.at(x);
        same(what, call.apply(x), want);
        same(what + ", asked again", call.apply(x), want);
        same(what + ", what is there", Look.at(x), before);
    }

    /** An act that is refused: -9, one more refusal, and nothing else is other then. */
    static void refused(String what, Supplier<Formwheel> made, Function<Formwheel, Integer> call) {
        Formwheel x = made.get();
        String before = Look.withoutRefusals(x);
        int refusals = x.house(1);
        same(what, call.apply(x), -9);
        same(what + ", refusals", x.house(1), refusals + 1);
        same(what + ", what is there", Look.withoutRefusals(x), before);
    }

    static void index(String what, Supplier<Formwheel> made, Consumer<Formwheel> call) {
        thrown(what, made, call, IndexOutOfBoundsException.class);
    }

    static void argument(String what, Supplier<Formwheel> made, Consumer<Formwheel> call) {
        thrown(what, made, call, IllegalArgumentException.class);
    }

    private static void thrown(String what, Supplier<Formwheel> made, Consumer<Formwheel> call, Class<?> want) {
        Formwheel x = made.get();
        String before = Look.at(x);
        Object got = "nothing";
        try {
            call.accept(x);
        } catch (RuntimeException e) {
            got = e.getClass();
        }
        same(what + " throws", got, want);
        same(what + ", what is there", Look.at(x), before);
    }
}
