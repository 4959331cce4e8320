import java.lang.reflect.InvocationTargetException;
import java.lang.reflect.Method;
import java.lang.reflect.Modifier;
import java.util.ArrayList;
import java.util.Arrays;
import java.util.Comparator;
import java.util.List;

/** Long runs of calls on Formwheel and on the plain model; each answer of both must be the same. */
final class ModelTests {
    private static final int RUNS = 300;
    private static final int CALLS = 500;

    /** Which argument each method has: f a form, p a place, c a code, k a number of the roll, and so on. */
    private static final String[] SHAPES = {
        "set:fC", "set:fc", "digit:fph", "run:frr", "copy:ff", "swap:ff", "shift:fs", "turn:f", "slope:f", "add:fff",
        "multiply:fff", "square:ff", "divide:fff", "remain:fff", "common:fff", "multipliers:ffff",
        "power:fmff", "allPrimes:nf", "seal:fff", "burst:fpb", "factor:fh", "enroll:f", "strike:k", "clear:",
        "sort:t", "turnAll:", "take:kf", "product:f", "start:f", "step:m", "load:m", "degree:f", "code:f",
        "has:fp", "ones:f", "lowest:f", "text:f", "order:ff", "divides:ff", "check:ff", "isPrime:fh",
        "primes:nh", "prime:nn", "period:fh", "rollText:k", "rowText:", "again:", "house:n", "knock:",
        "isSound:", "digest:"};

    private static final int[] EDGES = {
        -1, 6, 7, 10, 11, 12, 40, 41, 255, 256, 4096, Integer.MIN_VALUE, Integer.MAX_VALUE};

    private final List<Method> ofClass = new ArrayList<>();
    private final List<Method> ofModel = new ArrayList<>();
    private final List<String> shapes = new ArrayList<>();
    private final int[] answered = new int[SHAPES.length];
    private long state = 20261118;

    private ModelTests() {
        for (String row : SHAPES) {
            String name = row.substring(0, row.indexOf(':'));
            ofClass.add(methodOf(Formwheel.class, name));
            ofModel.add(methodOf(PlainWheel.class, name));
            shapes.add(row.substring(row.indexOf(':') + 1));
        }
    }

    private static Method methodOf(Class<?> of, String name) {
        return Arrays.stream(of.getDeclaredMethods())
            .filter(m -> m.getName().equals(name) && Modifier.isPublic(m.getModifiers()))
            .min(Comparator.comparing(Method::getName)).orElseThrow();
    }

    static void longRuns() {
        ModelTests tests = new ModelTests();
        for (int run = 0; run < RUNS; run++) {
            tests.runOne(run);
        }
        for (int kind = 0; kind < SHAPES.length; kind++) {
            Expect.so(SHAPES[kind] + " was answered often", tests.answered[kind] > RUNS / 4);
        }
    }

    private void runOne(int run) {
        Formwheel x = new Formwheel();
        PlainWheel plain = new PlainWheel();
        int before = Expect.wrongSoFar();
        for (int call = 0; call < CALLS && Expect.wrongSoFar() == before; call++) {
            int kind = next(SHAPES.length);
            Object[] given = argumentsOf(shapes.get(kind));
            Object want = answerOf(ofModel.get(kind), plain, given);
            String what = "run " + run + ", call " + call + ", " + SHAPES[kind] + Arrays.toString(given);
            Expect.same(what, answerOf(ofClass.get(kind), x, given), want);
            if (!(want instanceof Class)) {
                answered[kind]++;
            }
        }
        Expect.same("run " + run + ", digest", x.digest(), plain.digest());
    }

    private static Object answerOf(Method method, Object of, Object[] given) {
        try {
            return method.invoke(of, given);
        } catch (InvocationTargetException e) {
            return e.getCause().getClass();
        } catch (IllegalAccessException e) {
            throw new IllegalStateException(e);
        }
    }

    private Object[] argumentsOf(String shape) {
        Object[] given = new Object[shape.length()];
        for (int k = 0; k < given.length; k++) {
            given[k] = shape.charAt(k) == 't' ? (Object) (next(2) == 0) : (Object) argumentOf(shape.charAt(k));
        }
        return given;
    }

    private int argumentOf(char kind) {
        if (next(60) == 0) {
            return EDGES[next(EDGES.length)];
        }
        switch (kind) {
            case 'f':
                return next(6);
            case 'p':
                return next(40);
            case 'C':
                return next(1 << 1 + next(11));
            case 'c':
                return next(1 << 30) >> next(20);
            case 'h':
                return next(3);
            case 'r':
                return next(41);
            case 's':
                return next(79) - 39;
            case 'm':
                return next(256) >> next(6);
            case 'n':
                return next(8);
            case 'b':
                return next(4096) >> next(8);
            default:
                return next(6);
        }
    }

    /** The next one of a row of numbers that is the same each time. */
    private int next(int below) {
        state = state * 6364136223846793005L + 1442695040888963407L;
        return (int) ((state >>> 33) % below);
    }
}
