/** Promises 1 to 20: a new object, and the acts on forms. */
final class FormActTests {
    private static final int FULL_CODE = Integer.MAX_VALUE;

    private FormActTests() {
    }

    private static Formwheel full() {
        Formwheel x = new Formwheel();
        x.run(0, 0, 40);
        return x;
    }

    /** Form 0 has a 1 at each of these places alone. */
    private static Formwheel at(int... places) {
        Formwheel x = new Formwheel();
        for (int place : places) {
            x.digit(0, place, 1);
        }
        return x;
    }

    static void p01New() {
        Formwheel x = new Formwheel();
        Expect.same("a new one", Look.at(x),
            "[][][][][][] roll  taps 3 cells 1 acts 0 knocks 0 ones 0 refused 0");
        for (int form = 0; form < 6; form++) {
            Expect.same("degree of a new form", x.degree(form), -1);
        }
        Formwheel other = new Formwheel();
        x.set(0, 5);
        x.enroll(0);
        Expect.same("another object", other.degree(0) + other.house(3), -1);
    }

    static void p02Set() {
        Formwheel x = new Formwheel();
        Expect.act("set(0, 5)", x, f -> f.set(0, 5), -1);
        Expect.same("code", x.code(0), 5);
        Expect.act("set(0, 0)", x, f -> f.set(0, 0), 2);
        Expect.same("text", x.text(0), "");
        Expect.act("set(5, 2147483647)", x, f -> f.set(5, FULL_CODE), -1);
        Expect.same("code", x.code(5), FULL_CODE);
        Expect.act("set(5, 1)", x, f -> f.set(5, 1), 30);
        Expect.same("another form", x.degree(4), -1);
        Expect.act("set behind a long one", at(39), f -> f.set(0, 2), 39);
        Expect.index("set(6, 1)", Made::busy, f -> f.set(6, 1));
        Expect.index("set(-1, -1)", Made::busy, f -> f.set(-1, -1));
        Expect.argument("set(0, -1)", Made::busy, f -> f.set(0, -1));
        Expect.argument("set(0, least)", Made::busy, f -> f.set(0, Integer.MIN_VALUE));
    }

    static void p03Digit() {
        Formwheel x = new Formwheel();
        Expect.act("digit(0, 39, 1)", x, f -> f.digit(0, 39, 1), 1);
        Expect.act("digit(0, 39, 1) again", x, f -> f.digit(0, 39, 1), 0);
        Expect.same("text", x.text(0), "39");
        Expect.act("digit(0, 3, 2)", x, f -> f.digit(0, 3, 2), 1);
        Expect.act("digit(0, 0, 0)", x, f -> f.digit(0, 0, 0), 0);
        Expect.same("text", x.text(0), "39 3");
        Expect.act("digit(0, 39, 2)", x, f -> f.digit(0, 39, 2), 1);
        Expect.act("digit(0, 3, 0)", x, f -> f.digit(0, 3, 0), 1);
        Expect.same("text", x.text(0), "");
        Expect.index("digit(6, 0, 0)", Made::busy, f -> f.digit(6, 0, 0));
        Expect.index("digit(-1, 0, 0)", Made::busy, f -> f.digit(-1, 0, 0));
        Expect.index("digit(0, 40, 3)", Made::busy, f -> f.digit(0, 40, 3));
        Expect.index("digit(0, -1, 1)", Made::busy, f -> f.digit(0, -1, 1));
        Expect.argument("digit(0, 0, 3)", Made::busy, f -> f.digit(0, 0, 3));
        Expect.argument("digit(0, 0, -1)", Made::busy, f -> f.digit(0, 0, -1));
    }

    static void p04Run() {
        Formwheel x = new Formwheel();
        Expect.act("run(1, 2, 5)", x, f -> f.run(1, 2, 5), 3);
        Expect.same("code", x.code(1), 28);
        Expect.act("run(1, 0, 40)", x, f -> f.run(1, 0, 40), 37);
        Expect.act("run(1, 39, 40)", x, f -> f.run(1, 39, 40), 36);
        Expect.act("run(1, 7, 7)", x, f -> f.run(1, 7, 7), 36);
        Expect.act("run(1, 40, 40)", x, f -> f.run(1, 40, 40), 36);
        Expect.act("run(1, 0, 0)", x, f -> f.run(1, 0, 0), 36);
        Expect.same("degree", x.degree(1), 38);
        Expect.index("run(6, 5, 4)", Made::busy, f -> f.run(6, 5, 4));
        Expect.index("run(-1, 0, 1)", Made::busy, f -> f.run(-1, 0, 1));
        Expect.argument("run(0, 5, 4)", Made::busy, f -> f.run(0, 5, 4));
        Expect.argument("run(0, -1, 4)", Made::busy, f -> f.run(0, -1, 4));
        Expect.argument("run(0, 0, 41)", Made::busy, f -> f.run(0, 0, 41));
        Expect.argument("run(0, 41, 41)", Made::busy, f -> f.run(0, 41, 41));
        Expect.argument("run(0, -2, -1)", Made::busy, f -> f.run(0, -2, -1));
    }

    static void p05Copy() {
        Formwheel x = Made.of(37, 6);
        Expect.act("copy(0, 1)", x, f -> f.copy(0, 1), 5);
        Expect.same("code", x.code(1), 37);
        Expect.same("what it was taken from", x.code(0), 37);
        x.set(0, 3);
        Expect.same("the copy stays", x.code(1), 37);
        Expect.act("copy(1, 1)", x, f -> f.copy(1, 1), 5);
        Expect.act("copy(2, 1)", x, f -> f.copy(2, 1), -1);
        Expect.same("text", x.text(1), "");
        Expect.index("copy(6, 0)", Made::busy, f -> f.copy(6, 0));
        Expect.index("copy(0, 6)", Made::busy, f -> f.copy(0, 6));
        Expect.index("copy(0, -1)", Made::busy, f -> f.copy(0, -1));
    }

    static void p06Swap() {
        Formwheel x = Made.of(37, 6, 6);
        Expect.act("swap(0, 1)", x, f -> f.swap(0, 1), 1);
        Expect.same("codes", x.code(0) * 100 + x.code(1), 637);
        Expect.act("swap(0, 2)", x, f -> f.swap(0, 2), 0);
        Expect.act("swap(1, 1)", x, f -> f.swap(1, 1), 0);
        Expect.same("code", x.code(1), 37);
        Expect.act("swap(1, 5)", x, f -> f.swap(1, 5), 1);
        Expect.same("empty then", x.degree(1), -1);
        Expect.index("swap(6, 0)", Made::busy, f -> f.swap(6, 0));
        Expect.index("swap(0, 6)", Made::busy, f -> f.swap(0, 6));
        Expect.index("swap(0, -1)", Made::busy, f -> f.swap(0, -1));
    }

    static void p07Shift() {
        Formwheel x = Made.of(37);
        Expect.act("shift(0, 34)", x, f -> f.shift(0, 34), 39);
        Expect.same("text", x.text(0), "39 36 34");
        Expect.act("shift(0, 0)", x, f -> f.shift(0, 0), 39);
        Expect.act("shift(0, -35)", x, f -> f.shift(0, -35), 4);
        Expect.same("text", x.text(0), "4 1");
        Expect.act("shift(0, -5)", x, f -> f.shift(0, -5), -1);
        Expect.act("shift(0, 39)", x, f -> f.shift(0, 39), -1);
        Expect.act("shift(0, -1)", Made.of(37), f -> f.shift(0, -1), 4);
        Expect.act("shift(0, -39)", full(), f -> f.shift(0, -39), 0);
        Expect.act("shift(0, 39)", Made.of(1), f -> f.shift(0, 39), 39);
        Expect.refused("shift(0, 1)", FormActTests::full, f -> f.shift(0, 1));
        Expect.refused("shift(0, 39)", () -> Made.of(2), f -> f.shift(0, 39));
        Expect.refused("shift(0, 35)", Made::busy, f -> f.shift(0, 35));
        Expect.index("shift(6, 40)", Made::busy, f -> f.shift(6, 40));
        Expect.index("shift(-1, 0)", Made::busy, f -> f.shift(-1, 0));
        Expect.argument("shift(3, 40)", Made::busy, f -> f.shift(3, 40));
        Expect.argument("shift(0, -40)", Made::busy, f -> f.shift(0, -40));
        Expect.argument("shift(0, least)", Made::busy, f -> f.shift(0, Integer.MIN_VALUE));
    }

    static void p08Turn() {
        Formwheel x = Made.of(11);
        Expect.act("turn(0)", x, f -> f.turn(0), 3);
        Expect.same("code", x.code(0), 13);
        x.set(0, 40);
        Expect.act("turn(0)", x, f -> f.turn(0), 2);
        Expect.same("code", x.code(0), 5);
        Expect.act("turn of none", x, f -> f.turn(3), -1);
        Expect.act("turn of one place", at(39), f -> f.turn(0), 0);
        Formwheel y = at(39, 38, 0);
        Expect.act("turn of 40 places", y, f -> f.turn(0), 39);
        Expect.same("text", y.text(0), "39 1 0");
        Expect.index("turn(6)", Made::busy, f -> f.turn(6));
        Expect.index("turn(-1)", Made::busy, f -> f.turn(-1));
    }

    static void p09Slope() {
        Formwheel x = Made.of(0b11011011);
        Expect.act("slope(0)", x, f -> f.slope(0), 6);
        Expect.same("code", x.code(0), 0b01000101);
        Expect.act("slope of a square", x, f -> f.slope(0), -1);
        Expect.act("slope of none", x, f -> f.slope(1), -1);
        Formwheel y = full();
        Expect.act("slope of all", y, f -> f.slope(0), 38);
        Expect.same("ones", y.ones(0), 20);
        Expect.index("slope(6)", Made::busy, f -> f.slope(6));
        Expect.index("slope(-1)", Made::busy, f -> f.slope(-1));
    }

    static void p10Add() {
        Formwheel x = Made.of(12, 10);
        Expect.act("add(0, 1, 2)", x, f -> f.add(0, 1, 2), 2);
        Expect.same("codes", x.code(0) * 10000 + x.code(1) * 100 + x.code(2), 121006);
        Expect.act("add(0, 1, 0)", x, f -> f.add(0, 1, 0), 2);
        Expect.same("code", x.code(0), 6);
        Expect.act("add(0, 1, 1)", x, f -> f.add(0, 1, 1), 3);
        Expect.same("code", x.code(1), 12);
        Expect.act("add(1, 1, 1)", x, f -> f.add(1, 1, 1), -1);
        Expect.act("add of the greatest place", at(39), f -> f.add(0, 1, 5), 39);
        Expect.index("add(6, 0, 0)", Made::busy, f -> f.add(6, 0, 0));
        Expect.index("add(0, 6, 0)", Made::busy, f -> f.add(0, 6, 0));
        Expect.index("add(0, 0, -1)", Made::busy, f -> f.add(0, 0, -1));
    }

    static void p11Multiply() {
        Formwheel x = Made.of(7, 5);
        Expect.act("multiply(0, 1, 2)", x, f -> f.multiply(0, 1, 2), 4);
        Expect.same("code", x.code(2), 27);
        Expect.act("multiply(0, 0, 0)", x, f -> f.multiply(0, 0, 0), 4);
        Expect.same("code", x.code(0), 21);
        Expect.act("multiply(0, 1, 1)", x, f -> f.multiply(0, 1, 1), 6);
        Expect.same("code", x.code(1), 21 ^ 84);
        Expect.act("a full one by none", full(), f -> f.multiply(0, 1, 2), -1);
        Expect.act("none by a full one", full(), f -> f.multiply(1, 0, 0), -1);
        Formwheel y = full();
        y.set(1, 1);
        Expect.act("a full one by the unit", y, f -> f.multiply(0, 1, 2), 39);
        Expect.same("ones", y.ones(2), 40);
        Formwheel z = Made.of(1 << 19, 1 << 20);
        Expect.act("degrees 39 together", z, f -> f.multiply(0, 1, 2), 39);
        Expect.refused("degrees 40 together", () -> Made.of(1 << 20, 1 << 20), f -> f.multiply(0, 1, 2));
        Expect.refused("degrees 78 together", FormActTests::full, f -> f.multiply(0, 0, 2));
        Expect.refused("degrees 44 together", Made::busy, f -> f.multiply(0, 3, 2));
        Expect.index("multiply(6, 3, 3)", Made::busy, f -> f.multiply(6, 3, 3));
        Expect.index("multiply(3, -1, 3)", Made::busy, f -> f.multiply(3, -1, 3));
        Expect.index("multiply(3, 3, 6)", Made::busy, f -> f.multiply(3, 3, 6));
    }

    static void p12Square() {
        Formwheel x = Made.of(11);
        Expect.act("square(0, 1)", x, f -> f.square(0, 1), 6);
        Expect.same("code", x.code(1), 0b1000101);
        Expect.act("square(0, 0)", x, f -> f.square(0, 0), 6);
        Expect.same("code", x.code(0), 0b1000101);
        Expect.act("square of none", x, f -> f.square(3, 0), -1);
        Formwheel y = Made.of((1 << 20) - 1);
        Expect.act("square of degree 19", y, f -> f.square(0, 0), 38);
        Expect.same("ones", y.ones(0), 20);
        Expect.refused("square of degree 20", () -> Made.of(1 << 20), f -> f.square(0, 1));
        Expect.refused("square of degree 39", Made::busy, f -> f.square(3, 3));
        Expect.index("square(6, 0)", Made::busy, f -> f.square(6, 0));
        Expect.index("square(3, 6)", Made::busy, f -> f.square(3, 6));
        Expect.index("square(3, -1)", Made::busy, f -> f.square(3, -1));
    }

    static void p13Divide() {
        Formwheel x = Made.of(0b110111, 0b101);
        Expect.act("divide(0, 1, 2)", x, f -> f.divide(0, 1, 2), 3);
        Expect.same("code", x.code(2), 0b1110);
        Expect.act("a lesser degree", x, f -> f.divide(1, 0, 3), -1);
        Expect.act("by itself", x, f -> f.divide(0, 0, 0), 0);
        Expect.act("none by one", x, f -> f.divide(4, 1, 1), -1);
        Expect.act("a degree far below", Made.of(4, 1 << 30), f -> f.divide(0, 1, 2), -1);
        Formwheel y = full();
        y.set(1, 1);
        y.divide(0, 1, 2);
        Expect.same("a full one by the unit", y.ones(2), 40);
        Expect.act("a full one by itself", y, f -> f.divide(0, 0, 1), 0);
        Expect.refused("divide(0, 2, 1)", Made::busy, f -> f.divide(0, 2, 1));
        Expect.refused("divide(2, 2, 1)", Made::busy, f -> f.divide(2, 2, 1));
        Expect.index("divide(6, 2, 0)", Made::busy, f -> f.divide(6, 2, 0));
        Expect.index("divide(0, 6, 0)", Made::busy, f -> f.divide(0, 6, 0));
        Expect.index("divide(0, 2, -1)", Made::busy, f -> f.divide(0, 2, -1));
    }

    static void p14Remain() {
        Formwheel x = Made.of(0b110111, 0b1101);
        Expect.act("remain(0, 1, 2)", x, f -> f.remain(0, 1, 2), 1);
        Expect.same("code", x.code(2), 0b11);
        Expect.act("a lesser degree", x, f -> f.remain(1, 0, 3), 3);
        Expect.same("code", x.code(3), 0b1101);
        Expect.act("by itself", x, f -> f.remain(0, 0, 3), -1);
        Expect.act("into the divisor", x, f -> f.remain(0, 1, 1), 1);
        Expect.same("code", x.code(1), 0b11);
        Expect.act("a degree far below", Made.of(4, 1 << 30), f -> f.remain(0, 1, 2), 2);
        Formwheel y = Made.of(37, 1);
        Expect.act("by the unit", y, f -> f.remain(0, 1, 0), -1);
        Expect.refused("remain(0, 2, 1)", Made::busy, f -> f.remain(0, 2, 1));
        Expect.refused("remain(2, 2, 1)", Made::busy, f -> f.remain(2, 2, 1));
        Expect.index("remain(6, 2, 0)", Made::busy, f -> f.remain(6, 2, 0));
        Expect.index("remain(0, -1, 0)", Made::busy, f -> f.remain(0, -1, 0));
        Expect.index("remain(0, 2, 6)", Made::busy, f -> f.remain(0, 2, 6));
    }

    static void p15Common() {
        Formwheel x = Made.of(300, 212);
        Expect.act("common(0, 1, 2)", x, f -> f.common(0, 1, 2), 3);
        Expect.same("code", x.code(2), 12);
        Expect.act("common with none", x, f -> f.common(0, 5, 3), 8);
        Expect.same("code", x.code(3), 300);
        Expect.act("common of none with it", x, f -> f.common(5, 1, 3), 7);
        Expect.same("code", x.code(3), 212);
        Expect.act("common of both none", x, f -> f.common(5, 5, 0), -1);
        Expect.same("empty then", x.degree(0), -1);
        Formwheel y = Made.of(7, 11);
        Expect.act("of unlike primes", y, f -> f.common(0, 1, 1), 0);
        Expect.same("code", y.code(1), 1);
        Expect.act("of one with itself", full(), f -> f.common(0, 0, 1), 39);
        Expect.index("common(6, 0, 0)", Made::busy, f -> f.common(6, 0, 0));
        Expect.index("common(0, 6, 0)", Made::busy, f -> f.common(0, 6, 0));
        Expect.index("common(0, 0, -1)", Made::busy, f -> f.common(0, 0, -1));
    }

    static void p16Multipliers() {
        Formwheel x = Made.of(300, 212);
        Expect.act("multipliers(0, 1, 2, 3)", x, f -> f.multipliers(0, 1, 2, 3), 3);
        Expect.same("codes", x.code(2) * 100 + x.code(3), 1025);
        Expect.act("into both themselves", x, f -> f.multipliers(0, 1, 1, 0), 3);
        Expect.same("codes", x.code(1) * 100 + x.code(0), 1025);
        Formwheel y = Made.of(37, 0, 9, 9);
        Expect.act("one and none", y, f -> f.multipliers(0, 1, 2, 3), 5);
        Expect.same("codes", y.code(2) * 100 + y.code(3), 100);
        Expect.act("none and one", y, f -> f.multipliers(1, 0, 2, 3), 5);
        Expect.same("codes", y.code(2) * 100 + y.code(3), 1);
        Expect.act("none and none", y, f -> f.multipliers(1, 1, 2, 3), -1);
        Expect.same("codes", y.code(2) * 100 + y.code(3), 100);
        Expect.act("one with itself", y, f -> f.multipliers(0, 0, 2, 3), 5);
        Expect.same("codes", y.code(2) * 100 + y.code(3), 1);
        Expect.index("multipliers(6, 0, 1, 1)", Made::busy, f -> f.multipliers(6, 0, 1, 1));
        Expect.index("multipliers(0, 6, 1, 1)", Made::busy, f -> f.multipliers(0, 6, 1, 1));
        Expect.index("multipliers(0, 1, 6, 6)", Made::busy, f -> f.multipliers(0, 1, 6, 6));
        Expect.index("multipliers(0, 1, 2, -1)", Made::busy, f -> f.multipliers(0, 1, 2, -1));
        Expect.argument("multipliers(0, 1, 2, 2)", Made::busy, f -> f.multipliers(0, 1, 2, 2));
    }

    static void p17Power() {
        Formwheel x = Made.of(2, 37, 3);
        Expect.act("power(0, 31, 1, 3)", x, f -> f.power(0, 31, 1, 3), 0);
        Expect.act("power(0, 5, 1, 3)", x, f -> f.power(0, 5, 1, 3), 2);
        Expect.same("code", x.code(3), 5);
        Expect.act("power(0, 255, 1, 3)", x, f -> f.power(0, 255, 1, 3), 4);
        Expect.same("code", x.code(3), 20);
        Expect.act("power(2, 3, 1, 3)", x, f -> f.power(2, 3, 1, 3), 3);
        Expect.same("code", x.code(3), 15);
        Expect.act("none of none", x, f -> f.power(4, 0, 1, 3), 0);
        Expect.same("code", x.code(3), 1);
        Expect.act("one of none", x, f -> f.power(4, 1, 1, 3), -1);
        Expect.act("into the divisor", x, f -> f.power(0, 6, 1, 1), 3);
        Expect.same("code", x.code(1), 10);
        Formwheel y = full();
        y.set(1, 1);
        Expect.act("none by the unit", y, f -> f.power(0, 0, 1, 2), -1);
        y.set(1, 1 << 20);
        Expect.act("by degree 20", y, f -> f.power(0, 1, 1, 2), 19);
        Expect.act("255 by degree 20", y, f -> f.power(0, 255, 1, 2), 1);
        Expect.refused("by degree 21", () -> Made.of(1, 1 << 21), f -> f.power(0, 0, 1, 2));
        Expect.refused("by degree 39", Made::busy, f -> f.power(0, 2, 3, 2));
        Expect.refused("by none", Made::busy, f -> f.power(0, 0, 2, 1));
        Expect.index("power(6, -1, 2, 0)", Made::busy, f -> f.power(6, -1, 2, 0));
        Expect.index("power(0, 256, -1, 0)", Made::busy, f -> f.power(0, 256, -1, 0));
        Expect.index("power(0, 0, 1, 6)", Made::busy, f -> f.power(0, 0, 1, 6));
        Expect.argument("power(0, -1, 2, 0)", Made::busy, f -> f.power(0, -1, 2, 0));
        Expect.argument("power(0, 256, 1, 0)", Made::busy, f -> f.power(0, 256, 1, 0));
    }

    static void p18AllPrimes() {
        String[] due = {"2 1", "4 1", "8 1", "16 1", "32 1"};
        for (int n = 1; n <= 5; n++) {
            int degree = n;
            Formwheel x = Made.of(7);
            Expect.act("allPrimes(" + n + ", 0)", x, f -> f.allPrimes(degree, 0), 1 << n);
            Expect.same("text", x.text(0), due[n - 1]);
        }
        Expect.index("allPrimes(6, 6)", Made::busy, f -> f.allPrimes(6, 6));
        Expect.index("allPrimes(1, -1)", Made::busy, f -> f.allPrimes(1, -1));
        Expect.argument("allPrimes(6, 0)", Made::busy, f -> f.allPrimes(6, 0));
        Expect.argument("allPrimes(0, 0)", Made::busy, f -> f.allPrimes(0, 0));
    }

    static void p19Seal() {
        Formwheel x = Made.of(37, 25);
        Expect.act("seal(1, 0, 2)", x, f -> f.seal(1, 0, 2), 2);
        Expect.same("code", x.code(2), 25 << 5 ^ 18);
        Expect.act("into the seal", x, f -> f.seal(1, 0, 0), 2);
        Expect.same("code", x.code(0), 25 << 5 ^ 18);
        Formwheel y = Made.of(3, 1 << 30);
        Expect.act("into the form", y, f -> f.seal(0, 0, 0), 0);
        Expect.same("code", y.code(0), 6);
        y.set(0, 11);
        y.shift(1, 6);
        Expect.act("degrees 39 together", y, f -> f.seal(1, 0, 1), 2);
        Expect.same("text", y.text(1), "39 2 1");
        Expect.act("none is sealed", y, f -> f.seal(3, 0, 2), 0);
        Expect.same("empty then", y.degree(2), -1);
        Expect.act("none by degree 39", y, f -> f.seal(3, 1, 2), 0);
        Expect.refused("by none", Made::busy, f -> f.seal(0, 2, 1));
        Expect.refused("by the unit", Made::busy, f -> f.seal(0, 4, 1));
        Expect.refused("none by the unit", Made::busy, f -> f.seal(2, 4, 1));
        Expect.refused("degrees 40 together", () -> Made.of(1 << 30, 1 << 10), f -> f.seal(0, 1, 2));
        Expect.refused("degrees 44 together", Made::busy, f -> f.seal(3, 0, 1));
        Expect.index("seal(6, 2, 0)", Made::busy, f -> f.seal(6, 2, 0));
        Expect.index("seal(0, -1, 0)", Made::busy, f -> f.seal(0, -1, 0));
        Expect.index("seal(0, 2, 6)", Made::busy, f -> f.seal(0, 2, 6));
    }

    static void p20Burst() {
        Formwheel x = Made.of(37);
        Expect.act("burst(0, 1, 3)", x, f -> f.burst(0, 1, 3), 3);
        Expect.same("code", x.code(0), 35);
        Expect.act("burst(0, 39, 1)", x, f -> f.burst(0, 39, 1), 4);
        Expect.act("burst(0, 39, 0)", x, f -> f.burst(0, 39, 0), 4);
        Expect.act("burst(0, 28, 4095)", x, f -> f.burst(0, 28, 4095), 14);
        Expect.same("text", x.text(0), "38 37 36 35 34 33 32 31 30 29 28 5 1 0");
        Expect.refused("burst(0, 39, 2)", Made::busy, f -> f.burst(0, 39, 2));
        Expect.refused("burst(0, 29, 2048)", Made::busy, f -> f.burst(0, 29, 2048));
        Expect.refused("burst(2, 39, 4095)", Made::busy, f -> f.burst(2, 39, 4095));
        Expect.index("burst(6, 0, 4096)", Made::busy, f -> f.burst(6, 0, 4096));
        Expect.index("burst(0, 40, 4096)", Made::busy, f -> f.burst(0, 40, 4096));
        Expect.index("burst(0, -1, 0)", Made::busy, f -> f.burst(0, -1, 0));
        Expect.argument("burst(0, 0, 4096)", Made::busy, f -> f.burst(0, 0, 4096));
        Expect.argument("burst(0, 39, 4096)", Made::busy, f -> f.burst(0, 39, 4096));
        Expect.argument("burst(0, 0, -1)", Made::busy, f -> f.burst(0, 0, -1));
    }
}
