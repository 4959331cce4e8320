/** Promises 21 to 31: the acts on the roll and on the shift row. */
final class RollAndRowTests {
    private static final int FULL = Integer.MAX_VALUE;

    private RollAndRowTests() {
    }

    /** The roll as text, its ones parted by commas. */
    private static String rollOf(Formwheel x) {
        StringBuilder seen = new StringBuilder();
        for (int k = 0; k < x.house(3); k++) {
            seen.append(k == 0 ? "" : ",").append(x.rollText(k));
        }
        return seen.toString();
    }

    static void p21Factor() {
        Formwheel x = Made.of(1023, 1024, 2047, 2, 1);
        x.enroll(2);
        Expect.act("factor(0, 0)", x, f -> f.factor(0, 0), 3);
        Expect.same("roll", rollOf(x), "1 0,4 3 2 1 0,4 3 2 1 0");
        Expect.act("factor(0, 1)", x, f -> f.factor(0, 1), 3);
        Expect.same("roll", rollOf(x), "4 3 2 1 0,4 3 2 1 0,1 0");
        Expect.act("factor(1, 0)", x, f -> f.factor(1, 0), 10);
        Expect.same("roll", rollOf(x), "1,1,1,1,1,1,1,1,1,1");
        Expect.act("factor(1, 1)", x, f -> f.factor(1, 1), 10);
        Expect.act("factor(2, 0)", x, f -> f.factor(2, 0), 1);
        Expect.same("roll", rollOf(x), "10 9 8 7 6 5 4 3 2 1 0");
        Expect.act("factor(3, 1)", x, f -> f.factor(3, 1), 1);
        Expect.same("roll", rollOf(x), "1");
        x.set(5, 127);
        x.multiply(5, 3, 5);
        Expect.act("unlike ones of a degree", x, f -> f.factor(5, 1), 3);
        Expect.same("roll", rollOf(x), "3 2 0,3 1 0,1");
        Expect.act("unlike ones of a degree", x, f -> f.factor(5, 0), 3);
        Expect.same("roll", rollOf(x), "1,3 1 0,3 2 0");
        x.set(5, 0);
        Expect.same("the roll stays", rollOf(x), "1,3 1 0,3 2 0");
        Expect.act("factor(2, 1)", x, f -> f.factor(2, 1), 1);
        Expect.same("roll", rollOf(x), "10 9 8 7 6 5 4 3 2 1 0");
        eachPrimeAlone();
        Expect.refused("of the unit", Made::busy, f -> f.factor(4, 0));
        Expect.refused("of none", Made::busy, f -> f.factor(2, 1));
        Expect.refused("of degree 11", () -> Made.of(2048), f -> f.factor(0, 1));
        Expect.refused("of degree 39", Made::busy, f -> f.factor(3, 0));
        Expect.index("factor(6, 2)", Made::busy, f -> f.factor(6, 2));
        Expect.index("factor(-1, 0)", Made::busy, f -> f.factor(-1, 0));
        Expect.argument("factor(0, 2)", Made::busy, f -> f.factor(0, 2));
        Expect.argument("factor(3, -1)", Made::busy, f -> f.factor(3, -1));
    }

    /** One object looks for the factors of many forms, one behind the other. */
    private static void eachPrimeAlone() {
        Formwheel x = new Formwheel();
        for (int n = 1; n <= 6; n++) {
            for (int k = 0; k <= 9 && x.prime(n, k) != -1; k++) {
                x.set(0, x.prime(n, k));
                Expect.act("factor of a prime", x, f -> f.factor(0, 1), 1);
                Expect.same("roll", rollOf(x), x.text(0));
            }
        }
    }

    static void p22Enroll() {
        Formwheel x = Made.of(37, 6);
        Expect.act("enroll(0)", x, f -> f.enroll(0), 1);
        Expect.act("enroll(1)", x, f -> f.enroll(1), 2);
        Expect.act("enroll of none", x, f -> f.enroll(2), 3);
        Expect.act("enroll(0) again", x, f -> f.enroll(0), 4);
        x.set(0, 3);
        Expect.same("the roll stays", rollOf(x), "5 2 0,2 1,,5 2 0");
        Expect.act("the twelfth", Made.rolled(11, 5), f -> f.enroll(1), 12);
        Expect.refused("the thirteenth", () -> Made.rolled(12, 5), f -> f.enroll(1));
        Expect.index("enroll(6)", () -> Made.rolled(12, 5), f -> f.enroll(6));
        Expect.index("enroll(-1)", Made::busy, f -> f.enroll(-1));
    }

    static void p23Strike() {
        Formwheel x = Made.roll(37, 6, 0, 9);
        Expect.act("strike(1)", x, f -> f.strike(1), 2);
        Expect.same("roll", rollOf(x), "5 2 0,,3 0");
        Expect.act("strike(2)", x, f -> f.strike(2), 3);
        Expect.act("strike(0)", x, f -> f.strike(0), 5);
        Expect.act("strike of none", x, f -> f.strike(0), -1);
        Expect.same("how many", x.house(3), 0);
        Expect.act("strike(11)", Made.rolled(12, 5), f -> f.strike(11), 2);
        Expect.index("strike(0)", Formwheel::new, f -> f.strike(0));
        Expect.index("strike(3)", Made::busy, f -> f.strike(3));
        Expect.index("strike(-1)", Made::busy, f -> f.strike(-1));
        Expect.index("strike(12)", () -> Made.rolled(12, 5), f -> f.strike(12));
    }

    static void p24Clear() {
        Formwheel x = Made.roll(37, 6, 0);
        Expect.act("clear()", x, Formwheel::clear, 3);
        Expect.same("how many", x.house(3), 0);
        Expect.act("clear() again", x, Formwheel::clear, 0);
        Expect.act("of 12", Made.rolled(12, 5), Formwheel::clear, 12);
    }

    static void p25Sort() {
        Formwheel x = Made.roll(37, 6, 0, 9, 6);
        Expect.act("sort(false)", x, f -> f.sort(false), 3);
        Expect.same("roll", rollOf(x), ",2 1,2 1,3 0,5 2 0");
        Expect.act("sort(false) again", x, f -> f.sort(false), 0);
        Expect.act("sort(true)", x, f -> f.sort(true), 4);
        Expect.same("roll", rollOf(x), "5 2 0,3 0,2 1,2 1,");
        Expect.act("sort of none", new Formwheel(), f -> f.sort(true), 0);
        Formwheel y = Made.roll(3, 1, 2);
        y.shift(0, 38);
        y.enroll(0);
        Expect.act("sort(true) with a long one", y, f -> f.sort(true), 3);
        Expect.same("roll", rollOf(y), "39,1 0,1,0");
        Expect.act("of 12", Made.roll(1, 2, 3, 4, 5, 6, 7, 8, 9, 10, 11, 12), f -> f.sort(true), 12);
    }

    static void p26TurnAll() {
        Formwheel x = Made.roll(11, 5, 8, 0, 6);
        Expect.act("turnAll()", x, Formwheel::turnAll, 3);
        Expect.same("roll", rollOf(x), "3 2 0,2 0,0,,1 0");
        Expect.act("turnAll() again", x, Formwheel::turnAll, 1);
        Expect.same("roll", rollOf(x), "3 1 0,2 0,0,,1 0");
        Expect.same("the form stays", x.code(0), 6);
        Expect.act("of none", new Formwheel(), Formwheel::turnAll, 0);
        Expect.act("of 12", Made.rolled(12, 2), Formwheel::turnAll, 12);
    }

    static void p27Take() {
        Formwheel x = Made.roll(37, 6, 0);
        Expect.act("take(1, 5)", x, f -> f.take(1, 5), 2);
        Expect.same("code", x.code(5), 6);
        Expect.same("the roll stays", rollOf(x), "5 2 0,2 1,");
        Expect.act("take(0, 0)", x, f -> f.take(0, 0), 5);
        Expect.act("take(2, 0)", x, f -> f.take(2, 0), -1);
        Expect.same("empty then", x.degree(0), -1);
        Expect.index("take(3, 0)", Made::busy, f -> f.take(3, 0));
        Expect.index("take(-1, 0)", Made::busy, f -> f.take(-1, 0));
        Expect.index("take(0, 6)", Made::busy, f -> f.take(0, 6));
        Expect.index("take(0, -1)", Made::busy, f -> f.take(0, -1));
        Expect.index("take of none", Formwheel::new, f -> f.take(0, 0));
    }

    static void p28Product() {
        Formwheel x = Made.roll(7, 5, 3);
        Expect.act("product(4)", x, f -> f.product(4), 5);
        Expect.same("code", x.code(4), 27 ^ 54);
        Expect.same("the roll stays", x.house(3), 3);
        Formwheel y = Made.of(37);
        Expect.act("of none", y, f -> f.product(0), 0);
        Expect.same("code", y.code(0), 1);
        Formwheel z = Made.rolled(3, 1 << 13);
        Expect.act("degrees 39 together", z, f -> f.product(1), 39);
        Expect.same("text", z.text(1), "39");
        Expect.act("with an empty one", Made.roll(FULL, FULL, 0, FULL), f -> f.product(1), -1);
        Expect.act("with an empty one at the end", Made.roll(FULL, FULL, 0), f -> f.product(1), -1);
        Expect.act("with an empty one first", Made.roll(0, FULL, FULL), f -> f.product(1), -1);
        Expect.act("an empty one alone", Made.roll(0), f -> f.product(1), -1);
        Expect.refused("degrees 40 together", () -> Made.roll(1 << 20, 1 << 20), f -> f.product(1));
        Expect.refused("degrees 360 together", () -> Made.rolled(12, FULL), f -> f.product(1));
        Expect.index("product(6)", () -> Made.rolled(12, FULL), f -> f.product(6));
        Expect.index("product(-1)", Made::busy, f -> f.product(-1));
    }

    static void p29Start() {
        Formwheel x = Made.of(37, 3, 511);
        Expect.act("start(0)", x, f -> f.start(0), 5);
        Expect.same("row", x.house(4) + " " + x.rowText(), "37 00001");
        x.set(0, 7);
        Expect.same("the taps stay", x.house(4), 37);
        x.step(3);
        Expect.act("start(1)", x, f -> f.start(1), 1);
        Expect.same("row", x.house(4) + " " + x.rowText(), "3 1");
        Expect.act("start(2)", x, f -> f.start(2), 8);
        Expect.same("row", x.house(4) + " " + x.rowText(), "511 00000001");
        Expect.refused("with none", Made::busy, f -> f.start(2));
        Expect.refused("with the unit", Made::busy, f -> f.start(4));
        Expect.refused("with degree 39", Made::busy, f -> f.start(3));
        Expect.refused("with degree 9", () -> Made.of(513), f -> f.start(0));
        Expect.refused("without a last digit", () -> Made.of(6), f -> f.start(0));
        Expect.refused("with x", () -> Made.of(2), f -> f.start(0));
        Expect.index("start(6)", Made::busy, f -> f.start(6));
        Expect.index("start(-1)", Made::busy, f -> f.start(-1));
    }

    static void p30Step() {
        Formwheel x = Made.row(37);
        StringBuilder rows = new StringBuilder();
        int gone = 0;
        for (int times = 0; times < 8; times++) {
            rows.append(' ').append(x.rowText());
            gone += x.step(1);
        }
        Expect.same("rows", rows.toString(), " 00001 00010 00100 01001 10010 00101 01011 10110");
        Expect.same("ones that went", gone, 2);
        Formwheel y = Made.row(37);
        Expect.act("step(31)", y, f -> f.step(31), 16);
        Expect.same("row", y.rowText(), "00001");
        Expect.act("step(0)", y, f -> f.step(0), 0);
        Expect.act("step(255)", y, f -> f.step(255), 129);
        Expect.act("of one cell", new Formwheel(), f -> f.step(255), 255);
        Formwheel z = Made.row(37);
        z.load(0);
        Expect.act("of no ones", z, f -> f.step(9), 0);
        Expect.same("row", z.rowText(), "00000");
        Expect.argument("step(256)", Made::busy, f -> f.step(256));
        Expect.argument("step(-1)", Made::busy, f -> f.step(-1));
    }

    static void p31Load() {
        Formwheel x = Made.row(37);
        Expect.act("load(21)", x, f -> f.load(21), 2);
        Expect.same("row", x.rowText(), "10101");
        Expect.act("load(31)", x, f -> f.load(31), 2);
        Expect.act("load(1)", x, f -> f.load(1), 4);
        Expect.same("row", x.rowText(), "10000");
        Expect.act("load(0)", x, f -> f.load(0), 1);
        Expect.act("load(255) of 8 cells", Made.row(257), f -> f.load(255), 7);
        Expect.refused("load(32)", Made::busy, f -> f.load(32));
        Expect.refused("load(255)", Made::busy, f -> f.load(255));
        Expect.refused("load(2)", Formwheel::new, f -> f.load(2));
        Expect.argument("load(256)", Made::busy, f -> f.load(256));
        Expect.argument("load(-1)", Made::busy, f -> f.load(-1));
    }
}
