import java.util.function.BiConsumer;

/** Promises 32 to 47: what is asked of forms, of primes, of the roll, of wheels. */
final class AskedTests {
    private AskedTests() {
    }

    private static void formOnly(String name, BiConsumer<Formwheel, Integer> call) {
        Expect.index(name + "(6)", Made::busy, f -> call.accept(f, 6));
        Expect.index(name + "(-1)", Made::busy, f -> call.accept(f, -1));
        Expect.index(name + "(greatest)", Made::busy, f -> call.accept(f, Integer.MAX_VALUE));
    }

    static void p32Degree() {
        int[] due = {5, 20, -1, 39, 0, 10};
        for (int form = 0; form < 6; form++) {
            int one = form;
            Expect.asked("degree(" + form + ")", Made::busy, f -> f.degree(one), due[form]);
        }
        formOnly("degree", Formwheel::degree);
    }

    static void p33Code() {
        Expect.asked("code(0)", Made::busy, f -> f.code(0), 37);
        Expect.asked("code(2)", Made::busy, f -> f.code(2), 0);
        Expect.asked("code(3)", Made::busy, f -> f.code(3), -9);
        Expect.asked("of degree 30", () -> Made.of(Integer.MAX_VALUE), f -> f.code(0), Integer.MAX_VALUE);
        Expect.asked("of degree 31", () -> shifted(1 << 30, 1), f -> f.code(0), -9);
        formOnly("code", Formwheel::code);
    }

    private static Formwheel shifted(int code, int by) {
        Formwheel x = Made.of(code);
        x.shift(0, by);
        return x;
    }

    static void p34Has() {
        Expect.asked("has(0, 5)", Made::busy, f -> f.has(0, 5), true);
        Expect.asked("has(0, 4)", Made::busy, f -> f.has(0, 4), false);
        Expect.asked("has(0, 0)", Made::busy, f -> f.has(0, 0), true);
        Expect.asked("has(3, 39)", Made::busy, f -> f.has(3, 39), true);
        Expect.asked("has(0, 39)", Made::busy, f -> f.has(0, 39), false);
        Expect.asked("has(2, 0)", Made::busy, f -> f.has(2, 0), false);
        Expect.index("has(6, 0)", Made::busy, f -> f.has(6, 0));
        Expect.index("has(-1, 0)", Made::busy, f -> f.has(-1, 0));
        Expect.index("has(0, 40)", Made::busy, f -> f.has(0, 40));
        Expect.index("has(0, -1)", Made::busy, f -> f.has(0, -1));
    }

    static void p35Ones() {
        Expect.asked("ones(0)", Made::busy, f -> f.ones(0), 3);
        Expect.asked("ones(2)", Made::busy, f -> f.ones(2), 0);
        Expect.asked("ones(3)", Made::busy, f -> f.ones(3), 3);
        Formwheel x = new Formwheel();
        x.run(0, 0, 40);
        Expect.same("of all", x.ones(0), 40);
        formOnly("ones", Formwheel::ones);
    }

    static void p36Lowest() {
        Expect.asked("lowest(0)", Made::busy, f -> f.lowest(0), 0);
        Expect.asked("lowest(2)", Made::busy, f -> f.lowest(2), -1);
        Expect.asked("lowest(3)", Made::busy, f -> f.lowest(3), 9);
        Expect.asked("of 39 alone", () -> shifted(1, 39), f -> f.lowest(0), 39);
        formOnly("lowest", Formwheel::lowest);
    }

    static void p37Text() {
        Expect.asked("text(0)", Made::busy, f -> f.text(0), "5 2 0");
        Expect.asked("text(2)", Made::busy, f -> f.text(2), "");
        Expect.asked("text(3)", Made::busy, f -> f.text(3), "39 10 9");
        Expect.asked("text(4)", Made::busy, f -> f.text(4), "0");
        formOnly("text", Formwheel::text);
    }

    static void p38Order() {
        Expect.asked("order(0, 1)", Made::busy, f -> f.order(0, 1), -1);
        Expect.asked("order(1, 0)", Made::busy, f -> f.order(1, 0), 1);
        Expect.asked("order(1, 1)", Made::busy, f -> f.order(1, 1), 0);
        Expect.asked("order(2, 4)", Made::busy, f -> f.order(2, 4), -1);
        Expect.asked("order(3, 1)", Made::busy, f -> f.order(3, 1), 1);
        Expect.asked("of like ones", () -> Made.of(9, 9), f -> f.order(0, 1), 0);
        Expect.asked("unlike at the place 0", () -> Made.of(9, 8), f -> f.order(0, 1), 1);
        Expect.asked("of one degree", () -> Made.of(11, 13), f -> f.order(0, 1), -1);
        Expect.index("order(6, 0)", Made::busy, f -> f.order(6, 0));
        Expect.index("order(0, 6)", Made::busy, f -> f.order(0, 6));
        Expect.index("order(0, -1)", Made::busy, f -> f.order(0, -1));
    }

    static void p39Divides() {
        Expect.asked("7 and 27", () -> Made.of(7, 27), f -> f.divides(0, 1), true);
        Expect.asked("27 and 7", () -> Made.of(7, 27), f -> f.divides(1, 0), false);
        Expect.asked("7 and 26", () -> Made.of(7, 26), f -> f.divides(0, 1), false);
        Expect.asked("one and itself", Made::busy, f -> f.divides(3, 3), true);
        Expect.asked("the unit and all", Made::busy, f -> f.divides(4, 3), true);
        Expect.asked("one and none", Made::busy, f -> f.divides(0, 2), true);
        Expect.asked("none and one", Made::busy, f -> f.divides(2, 0), false);
        Expect.asked("none and the unit", Made::busy, f -> f.divides(2, 4), false);
        Expect.asked("none and none", Made::busy, f -> f.divides(2, 2), true);
        Expect.index("divides(6, 0)", Made::busy, f -> f.divides(6, 0));
        Expect.index("divides(0, 6)", Made::busy, f -> f.divides(0, 6));
        Expect.index("divides(-1, 0)", Made::busy, f -> f.divides(-1, 0));
    }

    static void p40Check() {
        Expect.asked("25 by 37", () -> Made.of(25, 37), f -> f.check(0, 1), 18);
        Expect.asked("3 by 37", () -> Made.of(3, 37), f -> f.check(0, 1), 15);
        Expect.asked("none", () -> Made.of(0, 37), f -> f.check(0, 1), 0);
        Expect.asked("by degree 1", () -> Made.of(7, 3), f -> f.check(0, 1), 1);
        Expect.asked("degree 8 by 31", () -> withSealOf(31, 1 << 8), f -> f.check(0, 1), 128);
        Expect.asked("the unit by 31", () -> withSealOf(31, 1), f -> f.check(0, 1), Integer.MAX_VALUE);
        Expect.asked("by degree 32", () -> withSealOf(32, 1), f -> f.check(0, 1), -9);
        Expect.asked("none by degree 32", () -> withSealOf(32, 0), f -> f.check(0, 1), -9);
        Expect.asked("degrees 39 together", () -> Made.of(1 << 29, 1 << 10), f -> f.check(0, 1), 0);
        Expect.asked("degrees 40 together", () -> Made.of(1 << 29, 1 << 11), f -> f.check(0, 1), -9);
        Expect.asked("by none", Made::busy, f -> f.check(0, 2), -9);
        Expect.asked("by the unit", Made::busy, f -> f.check(0, 4), -9);
        Expect.index("check(6, 2)", Made::busy, f -> f.check(6, 2));
        Expect.index("check(0, 6)", Made::busy, f -> f.check(0, 6));
        Expect.index("check(0, -1)", Made::busy, f -> f.check(0, -1));
    }

    /** Form 0 has the code; form 1 a 1 at each place up to a degree. */
    private static Formwheel withSealOf(int degree, int code) {
        Formwheel x = Made.of(code);
        x.run(1, 0, degree + 1);
        return x;
    }

    static void p41IsPrime() {
        int[] primes = {2, 3, 7, 11, 13, 19, 25, 31, 37, 67, 131, 283, 285, 1033, 2047};
        int[] others = {0, 1, 4, 5, 6, 9, 15, 17, 21, 27, 69, 257, 1023, 1024, 2046};
        for (int how = 0; how < 2; how++) {
            int by = how;
            for (int code : primes) {
                Expect.same("isPrime of " + code + " by " + how, Made.of(code).isPrime(0, how), 1);
            }
            for (int code : others) {
                Expect.same("isPrime of " + code + " by " + how, Made.of(code).isPrime(0, how), 0);
            }
            Expect.asked("isPrime(0, how)", Made::busy, f -> f.isPrime(0, by), 1);
            Expect.asked("isPrime(2, how)", Made::busy, f -> f.isPrime(2, by), 0);
            Expect.asked("of degree 11", () -> Made.of(2053), f -> f.isPrime(0, by), -9);
            Expect.asked("of degree 39", Made::busy, f -> f.isPrime(3, by), -9);
        }
        for (int code = 0; code < 512; code++) {
            int want = PlainForm.isPrime(PlainForm.ofCode(code)) ? 1 : 0;
            Expect.same("isPrime of " + code + " by trying", Made.of(code).isPrime(0, 0), want);
            Expect.same("isPrime of " + code + " by rising", Made.of(code).isPrime(0, 1), want);
        }
        Expect.index("isPrime(6, 2)", Made::busy, f -> f.isPrime(6, 2));
        Expect.index("isPrime(-1, 0)", Made::busy, f -> f.isPrime(-1, 0));
        Expect.argument("isPrime(3, 2)", Made::busy, f -> f.isPrime(3, 2));
        Expect.argument("isPrime(0, -1)", Made::busy, f -> f.isPrime(0, -1));
    }

    static void p42Primes() {
        int[] due = {2, 1, 2, 3, 6, 9, 18, 30, 56, 99};
        for (int n = 1; n <= 10; n++) {
            int degree = n;
            Expect.asked("primes(" + n + ", 0)", Made::busy, f -> f.primes(degree, 0), due[n - 1]);
            if (n <= 6) {
                Expect.asked("primes(" + n + ", 1)", Made::busy, f -> f.primes(degree, 1), due[n - 1]);
            }
        }
        Expect.argument("primes(0, 0)", Made::busy, f -> f.primes(0, 0));
        Expect.argument("primes(11, 0)", Made::busy, f -> f.primes(11, 0));
        Expect.argument("primes(0, 1)", Made::busy, f -> f.primes(0, 1));
        Expect.argument("primes(7, 1)", Made::busy, f -> f.primes(7, 1));
        Expect.argument("primes(1, 2)", Made::busy, f -> f.primes(1, 2));
        Expect.argument("primes(1, -1)", Made::busy, f -> f.primes(1, -1));
    }

    static void p43Prime() {
        int[][] due = {
            {2, 3}, {7}, {11, 13}, {19, 25, 31}, {37, 41, 47, 55, 59, 61},
            {67, 73, 87, 91, 97, 103, 109, 115, 117}};
        for (int n = 1; n <= 6; n++) {
            for (int k = 0; k <= 9; k++) {
                int degree = n;
                int number = k;
                int want = k < due[n - 1].length ? due[n - 1][k] : -1;
                Expect.asked("prime(" + n + ", " + k + ")", Formwheel::new, f -> f.prime(degree, number), want);
            }
        }
        Expect.argument("prime(0, 0)", Made::busy, f -> f.prime(0, 0));
        Expect.argument("prime(7, 0)", Made::busy, f -> f.prime(7, 0));
        Expect.argument("prime(1, -1)", Made::busy, f -> f.prime(1, -1));
        Expect.argument("prime(1, 10)", Made::busy, f -> f.prime(1, 10));
    }

    static void p44Period() {
        int[][] due = {{3, 1}, {5, 2}, {7, 3}, {9, 3}, {15, 4}, {17, 4}, {21, 6}, {31, 5}, {37, 31}, {67, 63},
            {87, 21}, {85, 8}, {255, 8}, {257, 8}, {283, 51}, {285, 255}, {511, 9}};
        for (int how = 0; how < 3; how++) {
            int by = how;
            for (int[] one : due) {
                Expect.same("period of " + one[0] + " by " + how, Made.of(one[0]).period(0, how), one[1]);
            }
            Expect.asked("period(0, how)", Made::busy, f -> f.period(0, by), 31);
            Expect.asked("of none", Made::busy, f -> f.period(2, by), -9);
            Expect.asked("of the unit", Made::busy, f -> f.period(4, by), -9);
            Expect.asked("of degree 39", Made::busy, f -> f.period(3, by), -9);
            Expect.asked("of degree 9", () -> Made.of(513), f -> f.period(0, by), -9);
            Expect.asked("without a last digit", () -> Made.of(6), f -> f.period(0, by), -9);
        }
        Expect.index("period(6, 3)", Made::busy, f -> f.period(6, 3));
        Expect.index("period(-1, 0)", Made::busy, f -> f.period(-1, 0));
        Expect.argument("period(2, 3)", Made::busy, f -> f.period(2, 3));
        Expect.argument("period(0, -1)", Made::busy, f -> f.period(0, -1));
    }

    static void p45RollText() {
        Expect.asked("rollText(0)", Made::busy, f -> f.rollText(0), "5 2 0");
        Expect.asked("rollText(1)", Made::busy, f -> f.rollText(1), "");
        Formwheel x = Made.of(1);
        x.shift(0, 39);
        x.enroll(0);
        Expect.same("of 39 alone", x.rollText(0), "39");
        Expect.same("of 12", Made.rolled(12, 5).rollText(11), "2 0");
        Expect.index("rollText(3)", Made::busy, f -> f.rollText(3));
        Expect.index("rollText(-1)", Made::busy, f -> f.rollText(-1));
        Expect.index("of no one", Formwheel::new, f -> f.rollText(0));
        Expect.index("rollText(12)", () -> Made.rolled(12, 5), f -> f.rollText(12));
    }

    static void p46RowText() {
        Expect.asked("rowText()", Made::busy, Formwheel::rowText, "10101");
        Expect.asked("of a new one", Formwheel::new, Formwheel::rowText, "1");
        Expect.asked("of 8 cells", () -> Made.row(511), Formwheel::rowText, "00000001");
        Formwheel x = Made.row(257);
        x.load(131);
        Expect.same("rowText()", x.rowText(), "11000001");
    }

    static void p47Again() {
        Expect.asked("again()", Made::busy, Formwheel::again, 31);
        Expect.asked("of a new one", Formwheel::new, Formwheel::again, 1);
        Expect.asked("of 33", () -> Made.row(33), Formwheel::again, 5);
        Expect.asked("of 285", () -> Made.row(285), Formwheel::again, 255);
        Formwheel x = Made.row(285);
        x.load(0);
        Expect.same("of no ones", x.again(), 1);
        Formwheel y = Made.row(257);
        y.load(0b01010101);
        Expect.same("of a shorter way", y.again(), 2);
        y.step(3);
        Expect.same("of a shorter way, later", y.again(), 2);
        Expect.same("the row is there", y.rowText(), "01010101");
    }
}
