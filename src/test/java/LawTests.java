/** What always holds, seen through the face alone, of many forms. */
final class LawTests {
    private static final int FEW = 40;

    private LawTests() {
    }

    /** Codes that lie far from one another; the same ones each time. */
    private static int codeOf(int number, int bits) {
        long spread = (number + 1L) * 0x9E3779B97F4A7C15L;
        return (int) (spread >>> 64 - bits);
    }

    private static boolean areSame(Formwheel x, int one, int other) {
        return x.order(one, other) == 0;
    }

    /** Three forms of at most 13 digits. */
    private static Formwheel three(int number) {
        return Made.of(codeOf(number, 13), codeOf(number + 500, 13), codeOf(number + 900, 13));
    }

    static void sumsAndProducts() {
        for (int number = 0; number < FEW; number++) {
            Formwheel x = three(number);
            x.add(0, 1, 3);
            x.add(1, 0, 4);
            Expect.so("the sum of a and b is that of b and a", areSame(x, 3, 4));
            x.multiply(0, 1, 3);
            x.multiply(1, 0, 4);
            Expect.so("a by b is b by a", areSame(x, 3, 4));
            x.multiply(3, 2, 3);
            x.multiply(1, 2, 4);
            x.multiply(0, 4, 4);
            Expect.so("three in any sequence", areSame(x, 3, 4));
            x.add(1, 2, 3);
            x.multiply(0, 3, 3);
            x.multiply(0, 1, 4);
            x.multiply(0, 2, 5);
            x.add(4, 5, 5);
            Expect.so("a product goes through a sum", areSame(x, 3, 5));
        }
    }

    static void squares() {
        for (int number = 0; number < FEW; number++) {
            Formwheel x = three(number);
            x.add(0, 1, 3);
            x.square(3, 3);
            x.square(0, 4);
            for (int place = 0; place < 40; place++) {
                Expect.same("place " + place, x.has(4, place), place % 2 == 0 && x.has(0, place / 2));
            }
            x.square(1, 5);
            x.add(4, 5, 5);
            Expect.so("the square of a sum", areSame(x, 3, 5));
            x.multiply(0, 0, 3);
            Expect.so("the product by itself", areSame(x, 3, 4));
        }
    }

    static void turnedProducts() {
        for (int number = 0; number < FEW; number++) {
            Formwheel x = three(number);
            x.multiply(0, 1, 3);
            x.turn(3);
            x.turn(0);
            x.turn(1);
            x.multiply(0, 1, 4);
            Expect.so("a product turned round", areSame(x, 3, 4));
        }
    }

    static void quotientAndRest() {
        for (int number = 0; number < FEW; number++) {
            Formwheel x = Made.of(codeOf(number, 31), codeOf(number + 300, 3 + number % 28) | 1);
            x.divide(0, 1, 2);
            x.remain(0, 1, 3);
            Expect.so("the rest has a lesser degree", x.degree(3) < x.degree(1));
            x.multiply(2, 1, 4);
            x.add(4, 3, 4);
            Expect.so("quotient by divisor and rest", areSame(x, 0, 4));
        }
    }

    static void noOtherTwo() {
        for (int one = 0; one < 32; one += 3) {
            for (int by = 1; by < 16; by++) {
                Formwheel made = Made.of(one, by);
                made.divide(0, 1, 2);
                made.remain(0, 1, 3);
                StringBuilder found = new StringBuilder();
                for (int quotient = 0; quotient < 32; quotient++) {
                    for (int rest = 0; rest < Integer.highestOneBit(by); rest++) {
                        if ((PlainForm.code(PlainForm.product(PlainForm.ofCode(quotient), PlainForm.ofCode(by))) ^ rest)
                                == one) {
                            found.append(quotient).append(' ').append(rest).append(';');
                        }
                    }
                }
                Expect.same(one + " by " + by, made.code(2) + " " + made.code(3) + ";", found.toString());
            }
        }
    }

    static void commonByMultipliers() {
        for (int number = 0; number < FEW; number++) {
            Formwheel x = Made.of(codeOf(number, 20), codeOf(number + 300, 3 + number % 17));
            x.common(0, 1, 2);
            Expect.so("common divides both", x.divides(2, 0) && x.divides(2, 1));
            Expect.same("degree of common", x.multipliers(0, 1, 3, 4), x.degree(2));
            x.multiply(0, 3, 3);
            x.multiply(1, 4, 4);
            x.add(3, 4, 4);
            Expect.so("common by its multipliers", areSame(x, 2, 4));
        }
    }

    static void commonIsGreatest() {
        for (int one = 1; one < 64; one += 3) {
            for (int other = 1; other < 64; other += 5) {
                Formwheel x = Made.of(one, other);
                int greatest = 0;
                for (int code = 1; code < 64; code++) {
                    x.set(2, code);
                    greatest = x.divides(2, 0) && x.divides(2, 1) ? code : greatest;
                }
                x.common(0, 1, 2);
                Expect.same("common of " + one + " and " + other, x.code(2), greatest);
            }
        }
    }

    static void factors() {
        for (int code = 2; code < 2048; code++) {
            Formwheel x = Made.of(code);
            int many = x.factor(0, 0);
            for (int k = 0; k < many; k++) {
                x.take(k, 2);
                Expect.same("a factor is prime", x.isPrime(2, 0), 1);
            }
            String least = Look.rollOf(x);
            x.product(1);
            Expect.same("product of the factors", x.code(1), code);
            Expect.same("how many by degrees", x.factor(0, 1), many);
            x.product(1);
            Expect.same("product of the factors by degrees", x.code(1), code);
            x.sort(false);
            Expect.same("factors of " + code, Look.rollOf(x), least);
            x.copy(0, 1);
            x.slope(1);
            boolean areUnlike = x.common(0, 1, 1) == 0;
            boolean want = true;
            for (int k = 1; k < many; k++) {
                want = want && !x.rollText(k).equals(x.rollText(k - 1));
            }
            Expect.same("none twice, " + code, areUnlike, want);
        }
    }

    /** The roll of a form, turned, has the factors of the turned form. */
    static void turnedFactors() {
        for (int code = 3; code < 2048; code += 2) {
            Formwheel x = Made.of(code);
            x.factor(0, 0);
            x.turnAll();
            x.sort(false);
            Formwheel y = Made.of(code);
            y.turn(0);
            y.factor(0, 1);
            y.sort(false);
            Expect.same("factors of " + code + " turned", Look.rollOf(y), Look.rollOf(x));
        }
    }

    static void primes() {
        for (int code = 0; code < 2048; code++) {
            Formwheel x = Made.of(code);
            Expect.same("prime by rising", x.isPrime(0, 1), x.isPrime(0, 0));
            Expect.same("prime just if it is alone", x.isPrime(0, 0), x.factor(0, 0) == 1 ? 1 : 0);
        }
    }

    static void periods() {
        for (int code = 3; code < 512; code += 2) {
            Formwheel x = Made.of(code);
            int period = x.period(0, 0);
            Expect.same("period by steps of " + code, x.period(0, 1), period);
            Expect.same("period by factors of " + code, x.period(0, 2), period);
            int cells = x.start(0);
            Expect.same("begun anew", x.again(), period);
            x.load(codeOf(code, cells));
            Expect.same("any cells come again", period % x.again(), 0);
            String before = x.rowText();
            x.step(x.again());
            Expect.same("the cells then", x.rowText(), before);
        }
    }

    static void periodsOfPrimesAndTurned() {
        for (int code = 3; code < 512; code += 2) {
            Formwheel x = Made.of(code, code);
            int period = x.period(0, 0);
            x.turn(1);
            Expect.same("period of the turned one", x.period(1, 0), period);
            int rising = (1 << x.degree(0)) - 1;
            Expect.so("period of a prime", x.isPrime(0, 0) == 0 || rising % period == 0);
        }
    }

    static void sealsAndBursts() {
        for (int number = 0; number < FEW; number++) {
            int degree = 1 + number % 8;
            int wheel = 1 << degree | codeOf(number, 8) % (1 << degree) | 1;
            Formwheel x = Made.of(codeOf(number + 70, 31), wheel);
            int ones = x.seal(0, 1, 2);
            Expect.so("sealed", x.divides(1, 2));
            x.set(3, x.check(0, 1));
            Expect.same("ones of the check", x.ones(3), ones);
            x.shift(0, degree);
            x.add(0, 3, 3);
            Expect.so("the shifted one and the check", areSame(x, 2, 3));
            for (int code = 1; code < 1 << degree; code += 1 + degree / 3) {
                int place = number * 7 % 28;
                x.burst(2, place, code);
                Expect.so("behind a burst", !x.divides(1, 2));
                x.burst(2, place, code);
            }
        }
    }
}
