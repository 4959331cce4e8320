import java.util.BitSet;
import java.util.function.Function;

/** The sentences of promises 32 to 47: what is asked of forms, of primes, of the roll, of wheels. */
final class AskedSentences {
    private static final int LEAST = Integer.MIN_VALUE;
    private static final int GREATEST = Integer.MAX_VALUE;
    private static final String FULL = Made.run(0, 40);

    private AskedSentences() {
    }

    static void tell(Sentences s) {
        p32Degree(s);
        p33Code(s);
        p34Has(s);
        p35Ones(s);
        p36Lowest(s);
        p37Text(s);
        p38Order(s);
        p39Divides(s);
        p40Check(s);
        p41IsPrime(s);
        p42Primes(s);
        p43Prime(s);
        p44Period(s);
        p45RollText(s);
        p46RowText(s);
        p47Again(s);
    }

    /** What is asked of form 0, told as text() tells it. */
    private static void of(String text, Function<Formwheel, Object> call, Object want) {
        Expect.asked("of \"" + text + "\"", () -> Made.forms(text), call, want);
    }

    private static void p32Degree(Sentences s) {
        s.under("Promise 32");
        s.that("Returns its DEGREE", "none, and each place", () -> {
            of("", x -> x.degree(0), -1);
            of(FULL, x -> x.degree(0), 39);
            for (int place = 0; place < 40; place++) {
                of(String.valueOf(place), x -> x.degree(0), place);
                of(Made.run(0, place + 1), x -> x.degree(0), place);
            }
        });
        s.that("Throws IndexOutOfBoundsException if form is not 0 to 5", "-1 and 6, 0 and 5", () ->
            Expect.formsOnly("degree", Formwheel::degree));
    }

    private static void p33Code(Sentences s) {
        s.under("Promise 33");
        s.that("Returns its CODE", "none, 0 to 30, and all of them", () -> {
            of("", x -> x.code(0), 0);
            of(Made.run(0, 31), x -> x.code(0), GREATEST);
            for (int place = 0; place <= 30; place++) {
                of(String.valueOf(place), x -> x.code(0), (int) (1L << place));
            }
        });
        s.that("-9 if its DEGREE is above 30", "30, 31 to 39", () -> {
            of("30", x -> x.code(0), 1 << 30);
            of(FULL, x -> x.code(0), -9);
            for (int place = 31; place < 40; place++) {
                of(String.valueOf(place), x -> x.code(0), -9);
                of(place + " 0", x -> x.code(0), -9);
            }
        });
        s.that("Throws IndexOutOfBoundsException if form is not 0 to 5", "-1 and 6, 0 and 5", () ->
            Expect.formsOnly("code", Formwheel::code));
    }

    private static void p34Has(Sentences s) {
        s.under("Promise 34");
        s.that("Returns whether it has a 1 there", "each place of an empty, a full, and other ones", () -> {
            for (int place = 0; place < 40; place++) {
                int at = place;
                Expect.asked("empty", Formwheel::new, x -> x.has(0, at), false);
                Expect.asked("full", Made::full, x -> x.has(5, at), true);
                of("39 31 0", x -> x.has(0, at), at == 39 || at == 31 || at == 0);
            }
        });
        s.that("Throws IndexOutOfBoundsException if form is not 0 to 5", "-1 and 6, 0 and 5", () ->
            Expect.formsOnly("has", (x, form) -> x.has(form, 0)));
        s.that("or place is not 0 to 39", "-1 and 40, 0 and 39", () -> {
            Expect.notIndexes("has", (x, place) -> x.has(0, place), -1, 40, 63, 64, LEAST, GREATEST);
            Expect.notIndexes("both", (x, number) -> x.has(number, number), -1, 40);
            Expect.right("has", (x, place) -> x.has(0, place), 0, 1, 38, 39);
        });
    }

    private static void p35Ones(Sentences s) {
        s.under("Promise 35");
        s.that("Returns how many ones it has", "0 to 40", () -> {
            for (int many = 0; many <= 40; many++) {
                int ones = many;
                of(Made.run(0, many), x -> x.ones(0), ones);
                of(Made.run(40 - many, 40), x -> x.ones(0), ones);
            }
        });
        s.that("Throws IndexOutOfBoundsException if form is not 0 to 5", "-1 and 6, 0 and 5", () ->
            Expect.formsOnly("ones", Formwheel::ones));
    }

    private static void p36Lowest(Sentences s) {
        s.under("Promise 36");
        s.that("Returns the least place with a 1", "each place", () -> {
            of(FULL, x -> x.lowest(0), 0);
            for (int place = 0; place < 40; place++) {
                of(Made.run(place, 40), x -> x.lowest(0), place);
                of(String.valueOf(place), x -> x.lowest(0), place);
            }
        });
        s.that("NONE if it is EMPTY", "a new one, and one that became so", () -> {
            of("", x -> x.lowest(0), -1);
            Formwheel x = Made.full();
            x.add(0, 0, 0);
            Expect.same("one that became so", x.lowest(0), -1);
        });
        s.that("Throws IndexOutOfBoundsException if form is not 0 to 5", "-1 and 6, 0 and 5", () ->
            Expect.formsOnly("lowest", Formwheel::lowest));
    }

    private static void p37Text(Sentences s) {
        s.under("Promise 37");
        s.that("Returns the places with a 1, the greatest first", "each place alone", () -> {
            for (int place = 0; place < 40; place++) {
                Formwheel x = new Formwheel();
                x.digit(0, place, 1);
                Expect.asked("text", () -> x, f -> f.text(0), Integer.toString(place));
            }
        });
        s.that("with \" \" between", "one, two, all: none ahead and none behind", () -> {
            Formwheel x = new Formwheel();
            x.digit(0, 39, 1);
            x.digit(0, 0, 1);
            Expect.same("two", x.text(0), "39 0");
            Expect.same("all", Made.full().text(0), "39 38 37 36 35 34 33 32 31 30 29 28 27 26 25 24 23 22 21 20"
                + " 19 18 17 16 15 14 13 12 11 10 9 8 7 6 5 4 3 2 1 0");
        });
        s.that("\"\" if it is EMPTY", "a new one, and one that became so", () -> {
            of("", x -> x.text(0), "");
            Formwheel x = Made.full();
            x.add(0, 0, 0);
            Expect.same("one that became so", x.text(0), "");
        });
        s.that("Throws IndexOutOfBoundsException if form is not 0 to 5", "-1 and 6, 0 and 5", () ->
            Expect.formsOnly("text", Formwheel::text));
    }

    private static void p38Order(Sentences s) {
        s.under("Promise 38");
        s.that("Returns -1 if the first one is lesser, 1 if the other one is", "unlike at one place", () -> {
            for (int place = 0; place < 40; place++) {
                Formwheel x = Made.full();
                x.digit(0, place, 0);
                Expect.same("the first one", x.order(0, 1), -1);
                Expect.same("the other one", x.order(1, 0), 1);
            }
        });
        s.that("1 if the other one is", "the empty one is lesser than all", () -> {
            for (int place = 0; place < 40; place++) {
                of(String.valueOf(place), x -> x.order(0, 1), 1);
                of(String.valueOf(place), x -> x.order(1, 0), -1);
            }
        });
        s.that("0 if they are the same", "two empty ones, two full ones, one and itself", () -> {
            Expect.asked("empty", Formwheel::new, x -> x.order(0, 5), 0);
            Expect.asked("full", Made::full, x -> x.order(0, 5), 0);
            Expect.asked("one", Made::busy, x -> x.order(3, 3), 0);
        });
        s.that("Throws IndexOutOfBoundsException if one is not 0 to 5", "-1 and 6, 0 and 5", () ->
            Expect.formsOnly("order", (x, one) -> x.order(one, 5)));
        s.that("or other is not", "-1 and 6, 0 and 5", () ->
            Expect.formsOnly("order", (x, other) -> x.order(5, other)));
    }

    private static void p39Divides(Sentences s) {
        s.under("Promise 39");
        s.that("Returns whether the first one divides the other one", "all codes up to 31 by one another", () -> {
            for (int one = 0; one < 32; one++) {
                for (int other = 0; other < 32; other++) {
                    boolean want = PlainForm.goesInto(PlainForm.ofCode(one), PlainForm.ofCode(other));
                    Expect.same(one + " and " + other, Made.of(one, other).divides(0, 1), want);
                }
            }
        });
        s.that("Returns whether the first one divides the other one", "the empty one divides itself alone", () -> {
            Expect.asked("itself", Formwheel::new, x -> x.divides(0, 0), true);
            Expect.asked("another empty one", Formwheel::new, x -> x.divides(0, 5), true);
            of("0", x -> x.divides(1, 0), false);
            of(FULL, x -> x.divides(1, 0), false);
        });
        s.that("Returns whether the first one divides the other one", "each divides the empty one", () -> {
            of("0", x -> x.divides(0, 1), true);
            of(FULL, x -> x.divides(0, 1), true);
        });
        s.that("Returns whether the first one divides the other one", "the unit, itself, and degree 39", () -> {
            Expect.asked("the unit", () -> Made.forms("0", FULL), x -> x.divides(0, 1), true);
            Expect.asked("the unit is not divided", () -> Made.forms("0", FULL), x -> x.divides(1, 0), false);
            Expect.asked("itself", Made::full, x -> x.divides(0, 0), true);
            Expect.asked("unlike at 0", () -> Made.forms("39", "39 0"), x -> x.divides(0, 1), false);
            Expect.asked("x", () -> Made.forms("1", "39"), x -> x.divides(0, 1), true);
        });
        s.that("Throws IndexOutOfBoundsException if one is not 0 to 5", "-1 and 6, 0 and 5", () ->
            Expect.formsOnly("divides", (x, one) -> x.divides(one, 5)));
        s.that("or other is not", "-1 and 6, 0 and 5", () ->
            Expect.formsOnly("divides", (x, other) -> x.divides(5, other)));
    }

    private static void p40Check(Sentences s) {
        s.under("Promise 40");
        s.that("Returns the CODE of the CHECK", "each form by each seal", () -> {
            for (int code = 0; code < 32; code++) {
                for (int by = 2; by < 32; by++) {
                    BitSet seal = PlainForm.ofCode(by);
                    BitSet shifted = PlainForm.shifted(PlainForm.ofCode(code), PlainForm.degree(seal));
                    int want = (int) PlainForm.code(PlainForm.divided(shifted, seal)[1]);
                    Expect.same(code + " by " + by, Made.of(code, by).check(0, 1), want);
                }
            }
        });
        s.that("Returns the CODE of the CHECK", "0 of an empty one, by each seal", () -> {
            for (int degree = 1; degree <= 31; degree++) {
                String by = degree + " 0";
                Expect.asked("by " + by, () -> Made.forms("", by), x -> x.check(0, 1), 0);
            }
        });
        s.that("-9 if the DEGREE of the seal is not 1 to 31", "none, 0, 1", () -> {
            for (String form : new String[] {"", "0", "8", FULL}) {
                Expect.asked("by none", () -> Made.forms(form, ""), x -> x.check(0, 1), -9);
                Expect.asked("by the unit", () -> Made.forms(form, "0"), x -> x.check(0, 1), -9);
            }
            Expect.asked("by x", () -> Made.forms("38", "1"), x -> x.check(0, 1), 0);
            Expect.asked("by 3", () -> Made.forms("38", "1 0"), x -> x.check(0, 1), 1);
        });
        s.that("-9 if the DEGREE of the seal is not 1 to 31", "31, 32 to 39", () -> {
            Expect.asked("by 31", () -> Made.forms("0", "31 30 1 0"), x -> x.check(0, 1), 1 << 30 | 3);
            Expect.asked("by all of 31", () -> Made.forms("0", Made.run(0, 32)), x -> x.check(0, 1), GREATEST);
            for (int degree = 32; degree < 40; degree++) {
                String by = degree + " 0";
                Expect.asked("by " + by, () -> Made.forms("0", by), x -> x.check(0, 1), -9);
                Expect.asked("none by " + by, () -> Made.forms("", by), x -> x.check(0, 1), -9);
            }
        });
        s.that("or both DEGREES are together above 39", "39 and 40", () -> {
            for (int degree = 1; degree <= 31; degree++) {
                String by = degree + " 0";
                String right = 39 - degree + " 0";
                String wrong = 40 - degree + " 0";
                Expect.so("39", Made.forms(right, by).check(0, 1) >= 0);
                Expect.asked("40", () -> Made.forms(wrong, by), x -> x.check(0, 1), -9);
            }
            Expect.asked("44", () -> Made.forms(FULL, "5 2 0"), x -> x.check(0, 1), -9);
        });
        s.that("Throws IndexOutOfBoundsException if form is not 0 to 5", "-1 and 6, 0 and 5", () ->
            Expect.formsOnly("check", (x, form) -> x.check(form, 2)));
        s.that("or by is not", "-1 and 6, 0 and 5", () ->
            Expect.formsOnly("check", (x, by) -> x.check(3, by)));
    }

    private static void p41IsPrime(Sentences s) {
        s.under("Promise 41");
        s.that("Returns 1 if it is PRIME, otherwise 0", "all up to degree 8, by both ways", () -> {
            for (int code = 0; code < 512; code++) {
                int want = PlainForm.isPrime(PlainForm.ofCode(code)) ? 1 : 0;
                Formwheel x = Made.of(code);
                Expect.same(code + " by trying", x.isPrime(0, 0), want);
                Expect.same(code + " by rising", x.isPrime(0, 1), want);
            }
        });
        s.that("(both are the same)", "the degrees 9 and 10", () -> {
            int primes = 0;
            for (int code = 512; code < 2048; code++) {
                Formwheel x = Made.of(code);
                Expect.same("of " + code, x.isPrime(0, 1), x.isPrime(0, 0));
                primes += x.isPrime(0, 0);
            }
            Expect.same("how many", primes, 56 + 99);
        });
        s.that("Returns 1 if it is PRIME, otherwise 0", "the empty one and the unit are none", () -> {
            for (int how = 0; how < 2; how++) {
                int by = how;
                of("", x -> x.isPrime(0, by), 0);
                of("0", x -> x.isPrime(0, by), 0);
                of("1", x -> x.isPrime(0, by), 1);
                of("1 0", x -> x.isPrime(0, by), 1);
            }
        });
        s.that("-9 if its DEGREE is above 10", "10, 11 to 39", () -> {
            for (int how = 0; how < 2; how++) {
                int by = how;
                of("10 3 0", x -> x.isPrime(0, by), 1);
                of("10 0", x -> x.isPrime(0, by), 0);
                of(FULL, x -> x.isPrime(0, by), -9);
                for (int degree = 11; degree < 40; degree++) {
                    of(degree + " 2 0", x -> x.isPrime(0, by), -9);
                }
            }
        });
        s.that("Throws IndexOutOfBoundsException if form is not 0 to 5", "-1 and 6, 0 and 5", () -> {
            Expect.formsOnly("isPrime", (x, form) -> x.isPrime(form, 0));
            Expect.formsOnly("isPrime", (x, form) -> x.isPrime(form, 1));
        });
        s.that("Throws IllegalArgumentException if how is not 0 or 1", "-1 and 2, 0 and 1; also above degree 10", () -> {
            Expect.notArguments("isPrime", (x, how) -> x.isPrime(0, how), -1, 2, LEAST, GREATEST);
            Expect.notArguments("isPrime", (x, how) -> x.isPrime(3, how), -1, 2);
            Expect.right("isPrime", (x, how) -> x.isPrime(0, how), 0, 1);
        });
        s.that("Throws IndexOutOfBoundsException", "ahead of how", () ->
            Expect.notIndexes("isPrime", (x, form) -> x.isPrime(form, 2), -1, 6));
    }

    private static void p42Primes(Sentences s) {
        int[] due = {2, 1, 2, 3, 6, 9, 18, 30, 56, 99};
        s.under("Promise 42");
        s.that("0 by the sum, 1 by counting (both are the same)", "each degree", () -> {
            for (int n = 1; n <= 10; n++) {
                int degree = n;
                Expect.asked("by the sum", Made::busy, x -> x.primes(degree, 0), due[n - 1]);
                if (n <= 6) {
                    Expect.asked("by counting", Made::busy, x -> x.primes(degree, 1), due[n - 1]);
                }
            }
        });
        s.that("Returns HOW MANY PRIMES there are of it", "counted one by one, up to 8", () -> {
            for (int n = 1; n <= 8; n++) {
                int count = 0;
                for (int code = 1 << n; code < 2 << n; code++) {
                    count += PlainForm.isPrime(PlainForm.ofCode(code)) ? 1 : 0;
                }
                Expect.same("degree " + n, new Formwheel().primes(n, 0), count);
            }
        });
        s.that("Throws IllegalArgumentException if how is not 0 or 1", "-1 and 2, 0 and 1", () -> {
            Expect.notArguments("primes", (x, how) -> x.primes(1, how), -1, 2, LEAST, GREATEST);
            Expect.notArguments("with a wrong degree", (x, how) -> x.primes(0, how), -1, 2);
            Expect.right("primes", (x, how) -> x.primes(6, how), 0, 1);
        });
        s.that("or n is not 1 to 10 (by the sum)", "0 and 11, 1 and 10", () -> {
            Expect.notArguments("primes", (x, n) -> x.primes(n, 0), 0, 11, -1, LEAST, GREATEST);
            Expect.right("primes", (x, n) -> x.primes(n, 0), 1, 6, 7, 10);
        });
        s.that("1 to 6 (by counting)", "0 and 7, 1 and 6", () -> {
            Expect.notArguments("primes", (x, n) -> x.primes(n, 1), 0, 7, 10, 11, -1, LEAST, GREATEST);
            Expect.right("primes", (x, n) -> x.primes(n, 1), 1, 6);
        });
    }

    private static void p43Prime(Sentences s) {
        s.under("Promise 43");
        s.that("Returns the CODE of the PRIME of that DEGREE that has k lesser ones of it", "all of them", () -> {
            for (int n = 1; n <= 6; n++) {
                int k = 0;
                for (int code = 1 << n; code < 2 << n; code++) {
                    if (PlainForm.isPrime(PlainForm.ofCode(code))) {
                        Expect.same("prime(" + n + ", " + k + ")", new Formwheel().prime(n, k), code);
                        k++;
                    }
                }
            }
        });
        s.that("NONE without", "the last one and the number behind it", () -> {
            int[] last = {3, 7, 13, 31, 61, 117};
            int[] many = {2, 1, 2, 3, 6, 9};
            for (int n = 1; n <= 6; n++) {
                int degree = n;
                int first = many[n - 1];
                Expect.asked("the last one", Made::busy, x -> x.prime(degree, first - 1), last[n - 1]);
                for (int k = first; k <= 9; k++) {
                    int number = k;
                    Expect.asked("behind it", Made::busy, x -> x.prime(degree, number), -1);
                }
            }
        });
        s.that("Throws IllegalArgumentException if n is not 1 to 6", "0 and 7, 1 and 6", () -> {
            Expect.notArguments("prime", (x, n) -> x.prime(n, 0), 0, 7, -1, 31, 32, LEAST, GREATEST);
            Expect.right("prime", (x, n) -> x.prime(n, 9), 1, 6);
        });
        s.that("or k is not 0 to 9", "-1 and 10, 0 and 9", () -> {
            Expect.notArguments("prime", (x, k) -> x.prime(6, k), -1, 10, LEAST, GREATEST);
            Expect.right("prime", (x, k) -> x.prime(6, k), 0, 9);
        });
    }

    private static void p44Period(Sentences s) {
        s.under("Promise 44");
        s.that("Returns its PERIOD", "1, the least one, and 255, the greatest", () -> {
            for (int how = 0; how < 3; how++) {
                int by = how;
                of("1 0", x -> x.period(0, by), 1);
                of("8 4 3 2 0", x -> x.period(0, by), 255);
                of(Made.run(0, 9), x -> x.period(0, by), 9);
            }
        });
        s.that("(all are the same)", "each wheel by each way, and as the document tells it", () -> {
            for (int code = 3; code < 512; code += 2) {
                int want = PlainForm.period(PlainForm.ofCode(code));
                Formwheel x = Made.of(code);
                Expect.same(code + " by multiplying", x.period(0, 0), want);
                Expect.same(code + " by steps", x.period(0, 1), want);
                Expect.same(code + " by factors", x.period(0, 2), want);
            }
        });
        s.that("1 by the STEPS of a SHIFT ROW begun anew with it as TAPS", "the shift row itself stays", () -> {
            Expect.asked("period", Made::busy, x -> x.period(0, 1), 31);
            Expect.asked("with 8 cells", () -> loaded(511, 255), x -> x.period(0, 1), 9);
        });
        s.that("2 by its FACTORS", "the roll itself stays", () -> {
            Expect.asked("period", Made::busy, x -> x.period(0, 2), 31);
            Expect.asked("with 12", () -> Made.rolled(12, 511), x -> x.period(0, 2), 9);
        });
        s.that("-9 if it is no WHEEL", "the degrees none, 0, 1, 8, 9 and more", () -> {
            for (int how = 0; how < 3; how++) {
                int by = how;
                of("", x -> x.period(0, by), -9);
                of("0", x -> x.period(0, by), -9);
                of("1 0", x -> x.period(0, by), 1);
                of("8 0", x -> x.period(0, by), 8);
                for (int degree = 9; degree < 40; degree++) {
                    of(degree + " 0", x -> x.period(0, by), -9);
                }
            }
        });
        s.that("-9 if it is no WHEEL", "without a last digit", () -> {
            for (int how = 0; how < 3; how++) {
                int by = how;
                for (int degree = 1; degree <= 8; degree++) {
                    of(Made.run(1, degree + 1), x -> x.period(0, by), -9);
                }
            }
        });
        s.that("Throws IndexOutOfBoundsException if form is not 0 to 5", "-1 and 6, 0 and 5", () -> {
            Expect.formsOnly("period", (x, form) -> x.period(form, 0));
            Expect.formsOnly("period", (x, form) -> x.period(form, 1));
            Expect.formsOnly("period", (x, form) -> x.period(form, 2));
        });
        s.that("Throws IllegalArgumentException if how is not 0 to 2", "-1 and 3, 0 and 2; also of no wheel", () -> {
            Expect.notArguments("period", (x, how) -> x.period(0, how), -1, 3, LEAST, GREATEST);
            Expect.notArguments("of no wheel", (x, how) -> x.period(2, how), -1, 3);
            Expect.right("period", (x, how) -> x.period(0, how), 0, 1, 2);
        });
        s.that("Throws IndexOutOfBoundsException", "ahead of how", () ->
            Expect.notIndexes("period", (x, form) -> x.period(form, 3), -1, 6));
    }

    private static void p45RollText(Sentences s) {
        s.under("Promise 45");
        s.that("Returns that one as text() tells it", "an empty one, the unit, a full one", () -> {
            Expect.asked("empty", () -> Made.rollOf("", "0", FULL), x -> x.rollText(0), "");
            Expect.asked("the unit", () -> Made.rollOf("", "0", FULL), x -> x.rollText(1), "0");
            Expect.asked("full", () -> Made.rollOf("", "0", FULL), x -> x.rollText(2), FULL);
        });
        s.that("Throws IndexOutOfBoundsException if there is none with that number", "-1, and how many there are", () -> {
            for (int many = 0; many <= 12; many++) {
                int size = many;
                Expect.index("behind the last of " + many, () -> Made.rolled(size, 5), x -> x.rollText(size));
                Expect.index("-1 of " + many, () -> Made.rolled(size, 5), x -> x.rollText(-1));
                if (size > 0) {
                    Expect.same("the last one", Made.rolled(size, 5).rollText(size - 1), "2 0");
                }
            }
            Expect.notIndexes("rollText", Formwheel::rollText, -1, 12, LEAST, GREATEST);
        });
    }

    private static void p46RowText(Sentences s) {
        s.under("Promise 46");
        s.that("Returns the digits of the cells, from the cell 0 on, without anything between", "1 to 8 cells", () -> {
            Expect.asked("one cell", Formwheel::new, Formwheel::rowText, "1");
            Expect.asked("no ones", () -> loaded(511, 0), Formwheel::rowText, "00000000");
            Expect.asked("all ones", Made::full, Formwheel::rowText, "11111111");
            for (int degree = 1; degree <= 8; degree++) {
                int taps = 1 << degree | 1;
                Expect.asked("the cell 0", () -> loaded(taps, 1), Formwheel::rowText, "1" + "0".repeat(degree - 1));
            }
        });
        s.that("from the cell 0 on", "each code of 8 cells", () -> {
            for (int code = 0; code < 256; code++) {
                StringBuilder due = new StringBuilder(Integer.toString(256 | code, 2)).reverse();
                Expect.same("of " + code, loaded(511, code).rowText(), due.substring(0, 8));
            }
        });
    }

    private static Formwheel loaded(int taps, int code) {
        Formwheel x = Made.row(taps);
        x.load(code);
        return x;
    }

    private static void p47Again(Sentences s) {
        s.under("Promise 47");
        s.that("Returns after how many STEPS, 1 or more, the cells would be as they are now", "no ones, one cell", () -> {
            Expect.asked("a new one", Formwheel::new, Formwheel::again, 1);
            Expect.asked("one cell with a 0", () -> loaded(3, 0), Formwheel::again, 1);
            Expect.asked("8 cells with a 0", () -> loaded(285, 0), Formwheel::again, 1);
            Expect.asked("8 cells with a 1", () -> loaded(257, 255), Formwheel::again, 1);
        });
        s.that("Returns after how many STEPS", "255, the most", () -> {
            Expect.asked("begun anew", () -> Made.row(285), Formwheel::again, 255);
            Expect.asked("all ones", () -> loaded(285, 255), Formwheel::again, 255);
        });
        s.that("(for the first time)", "1, 2, 4 and 8 of 257", () -> {
            Expect.asked("2", () -> loaded(257, 0x55), Formwheel::again, 2);
            Expect.asked("4", () -> loaded(257, 0x33), Formwheel::again, 4);
            Expect.asked("8", () -> loaded(257, 0x01), Formwheel::again, 8);
        });
        s.that("the cells would be as they are now", "they are as they were, and come again", () -> {
            Expect.asked("again", Made::busy, Formwheel::again, 31);
            for (int code = 0; code < 256; code += 5) {
                Formwheel x = loaded(341, code);
                String before = x.rowText();
                int again = x.again();
                for (int times = 1; times < again; times++) {
                    x.step(1);
                    Expect.so("not yet behind " + times, !x.rowText().equals(before));
                }
                x.step(1);
                Expect.same("then", x.rowText(), before);
            }
        });
    }
}
