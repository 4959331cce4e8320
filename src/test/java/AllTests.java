import java.util.LinkedHashMap;
import java.util.List;
import java.util.Map;

/** Runs every test of the project: one of each promise, one of each sentence that names an edge, and others. */
public final class AllTests {
    private AllTests() {
    }

    private static Map<String, Runnable> tests() {
        Map<String, Runnable> tests = new LinkedHashMap<>();
        tests.put("the face", FaceTests::face);
        tests.put("the heads are the document's", FaceTests::heads);
        tests.put("each promise is of a head", FaceTests::promises);
        tests.put("no other library", FaceTests::library);
        tests.put("sizes of the class", FaceTests::sizes);
        tests.put("README.md shows each method", ReadmeTests::methodsAreShown);
        tests.put("README.md names each file", ReadmeTests::filesAreNamed);
        tests.put("README.md tells how to compile and to test", ReadmeTests::howToRun);
        tests.put("each quote stands in the document", QuoteTests::quotesStandThere);
        tests.put("each answer and exception is quoted", QuoteTests::rowsAreQuoted);
        tests.put("promise 1, a new object", FormActTests::p01New);
        tests.put("promise 2, set", FormActTests::p02Set);
        tests.put("promise 3, digit", FormActTests::p03Digit);
        tests.put("promise 4, run", FormActTests::p04Run);
        tests.put("promise 5, copy", FormActTests::p05Copy);
        tests.put("promise 6, swap", FormActTests::p06Swap);
        tests.put("promise 7, shift", FormActTests::p07Shift);
        tests.put("promise 8, turn", FormActTests::p08Turn);
        tests.put("promise 9, slope", FormActTests::p09Slope);
        tests.put("promise 10, add", FormActTests::p10Add);
        tests.put("promise 11, multiply", FormActTests::p11Multiply);
        tests.put("promise 12, square", FormActTests::p12Square);
        tests.put("promise 13, divide", FormActTests::p13Divide);
        tests.put("promise 14, remain", FormActTests::p14Remain);
        tests.put("promise 15, common", FormActTests::p15Common);
        tests.put("promise 16, multipliers", FormActTests::p16Multipliers);
        tests.put("promise 17, power", FormActTests::p17Power);
        tests.put("promise 18, allPrimes", FormActTests::p18AllPrimes);
        tests.put("promise 19, seal", FormActTests::p19Seal);
        tests.put("promise 20, burst", FormActTests::p20Burst);
        tests.put("promise 21, factor", RollAndRowTests::p21Factor);
        tests.put("promise 22, enroll", RollAndRowTests::p22Enroll);
        tests.put("promise 23, strike", RollAndRowTests::p23Strike);
        tests.put("promise 24, clear", RollAndRowTests::p24Clear);
        tests.put("promise 25, sort", RollAndRowTests::p25Sort);
        tests.put("promise 26, turnAll", RollAndRowTests::p26TurnAll);
        tests.put("promise 27, take", RollAndRowTests::p27Take);
        tests.put("promise 28, product", RollAndRowTests::p28Product);
        tests.put("promise 29, start", RollAndRowTests::p29Start);
        tests.put("promise 30, step", RollAndRowTests::p30Step);
        tests.put("promise 31, load", RollAndRowTests::p31Load);
        tests.put("promise 32, degree", AskedTests::p32Degree);
        tests.put("promise 33, code", AskedTests::p33Code);
        tests.put("promise 34, has", AskedTests::p34Has);
        tests.put("promise 35, ones", AskedTests::p35Ones);
        tests.put("promise 36, lowest", AskedTests::p36Lowest);
        tests.put("promise 37, text", AskedTests::p37Text);
        tests.put("promise 38, order", AskedTests::p38Order);
        tests.put("promise 39, divides", AskedTests::p39Divides);
        tests.put("promise 40, check", AskedTests::p40Check);
        tests.put("promise 41, isPrime", AskedTests::p41IsPrime);
        tests.put("promise 42, primes", AskedTests::p42Primes);
        tests.put("promise 43, prime", AskedTests::p43Prime);
        tests.put("promise 44, period", AskedTests::p44Period);
        tests.put("promise 45, rollText", AskedTests::p45RollText);
        tests.put("promise 46, rowText", AskedTests::p46RowText);
        tests.put("promise 47, again", AskedTests::p47Again);
        tests.put("promise 48, house", WholeTests::p48House);
        tests.put("promise 49, knock", WholeTests::p49Knock);
        tests.put("promise 50, isSound", WholeTests::p50IsSound);
        tests.put("promise 51, digest", WholeTests::p51Digest);
        tests.put("long runs beside a plain model", ModelTests::longRuns);
        return tests;
    }

    public static void main(String[] args) {
        int passed = 0;
        int failed = 0;
        for (Map.Entry<String, Runnable> test : tests().entrySet()) {
            if (holds(test.getValue())) {
                passed++;
                System.out.println("ok: " + test.getKey());
            } else {
                failed++;
                System.out.println("FAILED: " + test.getKey());
            }
        }
        for (Map.Entry<String, List<Sentences.Sentence>> told : Sentences.ofDocument().all().entrySet()) {
            int broken = brokenOf(told.getKey(), told.getValue());
            failed += broken;
            passed += told.getValue().size() - broken;
        }
        System.out.println("project: " + passed + " passed, " + failed + " failed");
        if (failed != 0) {
            System.exit(1);
        }
    }

    /** How many of the sentences under a heading do not hold. */
    private static int brokenOf(String heading, List<Sentences.Sentence> sentences) {
        int broken = 0;
        for (Sentences.Sentence one : sentences) {
            if (!holds(one.test())) {
                broken++;
                System.out.println("FAILED: " + heading + ", \"" + one.quote() + "\", " + one.which());
            }
        }
        if (broken == 0) {
            System.out.println("ok: " + heading + ", each of " + sentences.size() + " sentences");
        }
        return broken;
    }

    private static boolean holds(Runnable test) {
        int before = Expect.wrongSoFar();
        try {
            test.run();
        } catch (RuntimeException e) {
            System.out.println("  it throws " + e);
            return false;
        }
        return Expect.wrongSoFar() == before;
    }
}
