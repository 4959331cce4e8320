import java.util.BitSet;

/** The sentences of promises 11 to 20: products, quotients and rests, what two have in common, seals and bursts. */
final class DividingSentences {
    private static final int LEAST = Integer.MIN_VALUE;
    private static final int GREATEST = Integer.MAX_VALUE;
    private static final String FULL = Made.run(0, 40);

    private DividingSentences() {
    }

    static void tell(Sentences s) {
        p11Multiply(s);
        p12Square(s);
        p13Divide(s);
        p14Remain(s);
        p15Common(s);
        p16Multipliers(s);
        p17Power(s);
        p18AllPrimes(s);
        p19Seal(s);
        p20Burst(s);
    }

    private static void p11Multiply(Sentences s) {
        s.under("Promise 11");
        s.that("A FORM becomes the PRODUCT of two", "each with each into each", () ->
            Triples.each("multiply", (x, given) -> x.multiply(given[0], given[1], given[2]), PlainForm::product));
        s.that("A FORM becomes the PRODUCT of two", "of all ones, up to the place 39", () ->
            Expect.does("20 ones by 21", () -> Made.forms(Made.run(0, 20), Made.run(0, 21)), x -> x.multiply(0, 1, 2), 39,
                "form 2: " + PlainForm.text(PlainForm.product(
                    PlainForm.ofCode((1L << 20) - 1), PlainForm.ofCode((1L << 21) - 1)))));
        s.that("Returns its DEGREE then", "both degrees together", () -> {
            Expect.does("0 and 0", () -> Made.forms("0", "0"), x -> x.multiply(0, 1, 2), 0, "form 2: 0");
            Expect.does("39 and 0", () -> Made.forms(FULL, "0"), x -> x.multiply(0, 1, 2), 39, "form 2: " + FULL);
            Expect.does("0 and 39", () -> Made.forms("0", FULL), x -> x.multiply(0, 1, 0), 39, "form 0: " + FULL);
            Expect.does("38 and 1", () -> Made.forms("38 0", "1"), x -> x.multiply(0, 1, 2), 39, "form 2: 39 1");
        });
        s.that("Returns its DEGREE then", "NONE with an empty one", () -> {
            Expect.does("the first", () -> Made.forms("", FULL, "3"), x -> x.multiply(0, 1, 2), -1, "form 2: ");
            Expect.does("the other", () -> Made.forms(FULL, "", "3"), x -> x.multiply(0, 1, 2), -1, "form 2: ");
            Expect.does("both", () -> Made.forms("", "", "3"), x -> x.multiply(0, 1, 2), -1, "form 2: ");
            Expect.does("into the full one", () -> Made.forms("", FULL), x -> x.multiply(0, 1, 1), -1, "form 1: ");
        });
        s.that("REFUSED if there is none", "degrees 39, 40 and 78 together", () -> {
            for (int one = 1; one < 40; one++) {
                String first = one + " 0";
                String right = 39 - one == 0 ? "0" : 39 - one + " 0";
                String wrong = 40 - one + " 0";
                Expect.same("39", Made.forms(first, right).multiply(0, 1, 2), 39);
                for (int into = 0; into < 3; into++) {
                    int third = into;
                    Expect.refused("40", () -> Made.forms(first, wrong), x -> x.multiply(0, 1, third));
                }
            }
            Expect.refused("78", Made::full, x -> x.multiply(0, 1, 2));
            Expect.refused("78, of one", Made::full, x -> x.multiply(0, 0, 0));
        });
        s.that("Throws IndexOutOfBoundsException if one is not 0 to 5", "-1 and 6, 0 and 5", () ->
            Expect.formsOnly("multiply", (x, one) -> x.multiply(one, 5, 5)));
        s.that("other is not", "-1 and 6, 0 and 5", () ->
            Expect.formsOnly("multiply", (x, other) -> x.multiply(5, other, 5)));
        s.that("or into is not", "-1 and 6, 0 and 5; ahead of REFUSED", () ->
            Expect.formsOnly("multiply", (x, into) -> x.multiply(5, 5, into)));
    }

    private static void p12Square(Sentences s) {
        s.under("Promise 12");
        s.that("A FORM becomes the SQUARE of one", "each into each", () -> {
            for (int[] given : Triples.all()) {
                BitSet square = PlainForm.product(Triples.formOf(given[0]), Triples.formOf(given[0]));
                Expect.does("square", Triples::made, x -> x.square(given[0], given[2]), PlainForm.degree(square),
                    "form " + given[2] + ": " + PlainForm.text(square));
            }
        });
        s.that("Returns its DEGREE then", "none, 0, 38", () -> {
            Expect.does("of an empty one", () -> Made.forms("", "3"), x -> x.square(0, 1), -1, "form 1: ");
            Expect.does("of an empty one into itself", Formwheel::new, x -> x.square(0, 0), -1);
            Expect.does("of the unit", () -> Made.forms("0", "3"), x -> x.square(0, 1), 0, "form 1: 0");
            Expect.does("of degree 19", () -> Made.forms("19 0"), x -> x.square(0, 0), 38, "form 0: 38 0");
        });
        s.that("REFUSED if that would be above 39", "degrees 19 and 20 to 39", () -> {
            Expect.same("19", Made.forms("19").square(0, 1), 38);
            for (int degree = 20; degree < 40; degree++) {
                String text = String.valueOf(degree);
                Expect.refused("of " + degree, () -> Made.forms(text), x -> x.square(0, 1));
                Expect.refused("of " + degree + " into itself", () -> Made.forms(text), x -> x.square(0, 0));
            }
        });
        s.that("Throws IndexOutOfBoundsException if form is not 0 to 5", "-1 and 6, 0 and 5", () ->
            Expect.formsOnly("square", (x, form) -> x.square(form, 5)));
        s.that("or into is not", "-1 and 6, 0 and 5; ahead of REFUSED", () ->
            Expect.formsOnly("square", (x, into) -> x.square(5, into)));
    }

    private static void p13Divide(Sentences s) {
        s.under("Promise 13");
        s.that("A FORM becomes the QUOTIENT of two", "each by each into each", () ->
            Triples.each("divide", (x, given) -> x.divide(given[0], given[1], given[2]),
                (one, by) -> PlainForm.divided(one, by)[0]));
        s.that("Returns its DEGREE then", "NONE of a lesser degree, 0 of the same one", () -> {
            for (int degree = 1; degree < 40; degree++) {
                String less = degree - 1 == 0 ? "0" : degree - 1 + " 0";
                String same = degree + " 0";
                String by = String.valueOf(degree);
                Expect.does("less", () -> Made.forms(less, by, "3"), x -> x.divide(0, 1, 2), -1, "form 2: ");
                Expect.does("the same", () -> Made.forms(same, by, "3"), x -> x.divide(0, 1, 2), 0, "form 2: 0");
            }
        });
        s.that("Returns its DEGREE then", "by the unit, by itself, of an empty one", () -> {
            Expect.does("by the unit", () -> Made.forms(FULL, "0"), x -> x.divide(0, 1, 1), 39, "form 1: " + FULL);
            Expect.does("by itself", () -> Made.forms(FULL), x -> x.divide(0, 0, 0), 0, "form 0: 0");
            Expect.does("of an empty one", () -> Made.forms("", "0", "3"), x -> x.divide(0, 1, 2), -1, "form 2: ");
            Expect.does("by x", () -> Made.forms(FULL, "1"), x -> x.divide(0, 1, 0), 38, "form 0: " + Made.run(0, 39));
        });
        s.that("REFUSED if the divisor is EMPTY", "whatever is divided", () -> {
            for (int into = 0; into < 6; into++) {
                int third = into;
                Expect.refused("a full one", () -> Made.forms(FULL, "", "3"), x -> x.divide(0, 1, third));
                Expect.refused("an empty one", () -> Made.forms(FULL, "", "3"), x -> x.divide(1, 1, third));
            }
        });
        s.that("Throws IndexOutOfBoundsException if one is not 0 to 5", "-1 and 6, 0 and 5", () ->
            Expect.formsOnly("divide", (x, one) -> x.divide(one, 2, 5)));
        s.that("by is not", "-1 and 6, 0 and 5", () ->
            Expect.formsOnly("divide", (x, by) -> x.divide(5, by, 5)));
        s.that("or into is not", "-1 and 6, 0 and 5; ahead of REFUSED", () ->
            Expect.formsOnly("divide", (x, into) -> x.divide(5, 2, into)));
    }

    private static void p14Remain(Sentences s) {
        s.under("Promise 14");
        s.that("A FORM becomes the REST of two", "each by each into each", () ->
            Triples.each("remain", (x, given) -> x.remain(given[0], given[1], given[2]),
                (one, by) -> PlainForm.divided(one, by)[1]));
        s.that("Returns its DEGREE then", "a lesser degree stays as it is", () -> {
            for (int degree = 1; degree < 40; degree++) {
                String less = degree - 1 == 0 ? "0" : degree - 1 + " 0";
                String by = String.valueOf(degree);
                int left = degree - 1;
                Expect.does("less", () -> Made.forms(less, by, "3"), x -> x.remain(0, 1, 2), left, "form 2: " + less);
                Expect.does("the same", () -> Made.forms(by + " 0", by, "3"), x -> x.remain(0, 1, 2), 0, "form 2: 0");
            }
        });
        s.that("Returns its DEGREE then", "NONE if nothing is left", () -> {
            Expect.does("by the unit", () -> Made.forms(FULL, "0"), x -> x.remain(0, 1, 1), -1, "form 1: ");
            Expect.does("by itself", () -> Made.forms(FULL), x -> x.remain(0, 0, 0), -1, "form 0: ");
            Expect.does("of an empty one", () -> Made.forms("", FULL, "3"), x -> x.remain(0, 1, 2), -1, "form 2: ");
            Expect.does("by x", () -> Made.forms(FULL, "1"), x -> x.remain(0, 1, 0), 0, "form 0: 0");
        });
        s.that("REFUSED if the divisor is EMPTY", "whatever is divided", () -> {
            for (int into = 0; into < 6; into++) {
                int third = into;
                Expect.refused("a full one", () -> Made.forms(FULL, "", "3"), x -> x.remain(0, 1, third));
                Expect.refused("an empty one", () -> Made.forms(FULL, "", "3"), x -> x.remain(1, 1, third));
            }
        });
        s.that("Throws IndexOutOfBoundsException if one is not 0 to 5", "-1 and 6, 0 and 5", () ->
            Expect.formsOnly("remain", (x, one) -> x.remain(one, 2, 5)));
        s.that("by is not", "-1 and 6, 0 and 5", () ->
            Expect.formsOnly("remain", (x, by) -> x.remain(5, by, 5)));
        s.that("or into is not", "-1 and 6, 0 and 5; ahead of REFUSED", () ->
            Expect.formsOnly("remain", (x, into) -> x.remain(5, 2, into)));
    }

    private static void p15Common(Sentences s) {
        s.under("Promise 15");
        s.that("A FORM becomes COMMON of two", "each with each into each", () ->
            Triples.each("common", (x, given) -> x.common(given[0], given[1], given[2]),
                (one, other) -> PlainForm.multipliers(one, other)[0]));
        s.that("Returns its DEGREE then", "none, 0, 39", () -> {
            Expect.does("of two empty ones", () -> Made.forms("", "", "3"), x -> x.common(0, 1, 2), -1, "form 2: ");
            Expect.does("of an empty one and itself", Formwheel::new, x -> x.common(0, 0, 0), -1);
            Expect.does("with the unit", () -> Made.forms(FULL, "0", "3"), x -> x.common(0, 1, 2), 0, "form 2: 0");
            Expect.does("of one and itself", Made::full, x -> x.common(0, 0, 1), 39);
            Expect.does("of like ones", Made::full, x -> x.common(0, 1, 0), 39);
        });
        s.that("Returns its DEGREE then", "of one and an empty one", () -> {
            Expect.does("behind", () -> Made.forms("39 5", "", "3"), x -> x.common(0, 1, 2), 39, "form 2: 39 5");
            Expect.does("ahead", () -> Made.forms("39 5", "", "3"), x -> x.common(1, 0, 2), 39, "form 2: 39 5");
            Expect.does("into the empty one", () -> Made.forms("39 5"), x -> x.common(0, 1, 1), 39, "form 1: 39 5");
        });
        s.that("A FORM becomes COMMON of two", "up to the place 39", () ->
            Expect.does("x, 38 times", () -> Made.forms("39 38", "38"), x -> x.common(0, 1, 2), 38, "form 2: 38"));
        s.that("Throws IndexOutOfBoundsException if one is not 0 to 5", "-1 and 6, 0 and 5", () ->
            Expect.formsOnly("common", (x, one) -> x.common(one, 5, 5)));
        s.that("other is not", "-1 and 6, 0 and 5", () ->
            Expect.formsOnly("common", (x, other) -> x.common(5, other, 5)));
        s.that("or into is not", "-1 and 6, 0 and 5", () ->
            Expect.formsOnly("common", (x, into) -> x.common(5, 5, into)));
    }

    private static void p16Multipliers(Sentences s) {
        s.under("Promise 16");
        s.that("Two FORMS become the MULTIPLIERS of two", "each with each into each two", () -> {
            for (int[] given : Triples.all()) {
                BitSet[] row = PlainForm.multipliers(Triples.formOf(given[0]), Triples.formOf(given[1]));
                for (int next = 0; next < 6; next++) {
                    int last = next;
                    if (next != given[2]) {
                        Expect.does("multipliers", Triples::made, x -> x.multipliers(given[0], given[1], given[2], last),
                            PlainForm.degree(row[0]), "form " + given[2] + ": " + PlainForm.text(row[1]),
                            "form " + last + ": " + PlainForm.text(row[2]));
                    }
                }
            }
        });
        s.that("Returns DEGREE of COMMON", "none, 0, 39", () -> {
            Expect.does("of two empty ones", () -> Made.forms("", "", "3", "3"), x -> x.multipliers(0, 1, 2, 3), -1,
                "form 2: 0", "form 3: ");
            Expect.does("with the unit", () -> Made.forms(FULL, "0", "3", "3"), x -> x.multipliers(0, 1, 2, 3), 0,
                "form 2: ", "form 3: 0");
            Expect.does("with an empty one", () -> Made.forms(FULL, "", "3", "3"), x -> x.multipliers(0, 1, 2, 3), 39,
                "form 2: 0", "form 3: ");
            Expect.does("of one and itself", () -> Made.forms(FULL, "", "3", "3"), x -> x.multipliers(0, 0, 2, 3), 39,
                "form 2: ", "form 3: 0");
        });
        s.that("which becomes that of the first one", "also one of both that are taken", () -> {
            Expect.does("both, as they stand", () -> Made.of(300, 212), x -> x.multipliers(0, 1, 0, 1), 3,
                "form 0: 3 1", "form 1: 4 3 0");
            Expect.does("both, turned about", () -> Made.of(300, 212), x -> x.multipliers(0, 1, 1, 0), 3,
                "form 1: 3 1", "form 0: 4 3 0");
        });
        s.that("Throws IndexOutOfBoundsException if one is not 0 to 5", "-1 and 6, 0 and 5", () ->
            Expect.formsOnly("multipliers", (x, one) -> x.multipliers(one, 0, 1, 2)));
        s.that("other is not", "-1 and 6, 0 and 5", () ->
            Expect.formsOnly("multipliers", (x, other) -> x.multipliers(0, other, 1, 2)));
        s.that("into is not", "-1 and 6, 0 and 5", () -> {
            Expect.notIndexes("multipliers", (x, into) -> x.multipliers(0, 1, into, 2), -1, 6, LEAST, GREATEST);
            Expect.right("multipliers", (x, into) -> x.multipliers(0, 1, into, 2), 0, 1, 3, 4, 5);
        });
        s.that("or next is not", "-1 and 6, 0 and 5", () -> {
            Expect.notIndexes("multipliers", (x, next) -> x.multipliers(0, 1, 2, next), -1, 6, LEAST, GREATEST);
            Expect.right("multipliers", (x, next) -> x.multipliers(0, 1, 2, next), 0, 1, 3, 4, 5);
        });
        s.that("Throws IllegalArgumentException if into and next are the same", "each of the six", () ->
            Expect.notArguments("multipliers", (x, into) -> x.multipliers(0, 1, into, into), 0, 1, 2, 3, 4, 5));
        s.that("Throws IndexOutOfBoundsException", "ahead of the same ones", () -> {
            Expect.notIndexes("the first", (x, one) -> x.multipliers(one, 0, 1, 1), -1, 6);
            Expect.notIndexes("the second", (x, other) -> x.multipliers(0, other, 1, 1), -1, 6);
            Expect.notIndexes("both", (x, into) -> x.multipliers(0, 1, into, into), -1, 6);
        });
    }

    private static void p17Power(Sentences s) {
        s.under("Promise 17");
        s.that("A FORM becomes the REST by a divisor of the PRODUCT of so many of a FORM", "each by each into each", () -> {
            for (int many : new int[] {0, 1, 2, 5}) {
                Triples.each("power", (x, given) -> x.power(given[0], many, given[1], given[2]), (form, by) -> {
                    BitSet product = PlainForm.ofPlace(0);
                    for (int times = 0; times < many; times++) {
                        product = PlainForm.product(product, form);
                    }
                    return PlainForm.divided(product, by)[1];
                });
            }
        });
        s.that("(of 0: of the UNIT", "whatever form it is", () -> {
            Expect.does("of an empty one", () -> Made.forms("", "5 2 0", "3"), x -> x.power(0, 0, 1, 2), 0, "form 2: 0");
            Expect.does("of a full one", () -> Made.forms(FULL, "5 2 0", "3"), x -> x.power(0, 0, 1, 2), 0, "form 2: 0");
            Expect.does("of the divisor", () -> Made.forms("5 2 0"), x -> x.power(0, 0, 0, 0), 0, "form 0: 0");
            Expect.does("by the unit", () -> Made.forms("5", "0", "3"), x -> x.power(0, 0, 1, 2), -1, "form 2: ");
        });
        s.that("whatever DEGREE that PRODUCT has", "each number from 0 to 255, of x and of degree 39", () -> {
            BitSet by = PlainForm.ofCode(1 << 20 | 9);
            for (int many = 0; many <= 255; many++) {
                int times = many;
                BitSet ofX = PlainForm.divided(PlainForm.ofPlace(times), by)[1];
                BitSet ofTop = PlainForm.divided(PlainForm.ofPlace(39 * times), by)[1];
                Expect.does("x", () -> Made.forms("1", "20 3 0"), x -> x.power(0, times, 1, 2),
                    PlainForm.degree(ofX), "form 2: " + PlainForm.text(ofX));
                Expect.does("39", () -> Made.forms("39", "20 3 0"), x -> x.power(0, times, 1, 1),
                    PlainForm.degree(ofTop), "form 1: " + PlainForm.text(ofTop));
            }
        });
        s.that("Returns its DEGREE then", "NONE of an empty one, by the unit, by itself", () -> {
            Expect.does("of an empty one", () -> Made.forms("", "5 2 0", "3"), x -> x.power(0, 1, 1, 2), -1, "form 2: ");
            Expect.does("by the unit", () -> Made.forms(FULL, "0", "3"), x -> x.power(0, 255, 1, 2), -1, "form 2: ");
            Expect.does("by itself", () -> Made.forms("5 2 0"), x -> x.power(0, 1, 0, 0), -1, "form 0: ");
        });
        s.that("REFUSED if the divisor is EMPTY", "whatever is asked for", () -> {
            for (int many : new int[] {0, 1, 255}) {
                Expect.refused("a full one", () -> Made.forms(FULL), x -> x.power(0, many, 1, 0));
                Expect.refused("an empty one", () -> Made.forms(FULL), x -> x.power(1, many, 1, 0));
                Expect.refused("into the divisor", () -> Made.forms(FULL), x -> x.power(0, many, 1, 1));
            }
        });
        s.that("or its DEGREE is above 20", "20, 21 to 39", () -> {
            Expect.does("20", () -> Made.forms("19", "20 19"), x -> x.power(0, 1, 1, 2), 19, "form 2: 19");
            Expect.does("20, twice", () -> Made.forms("10", "20 19"), x -> x.power(0, 2, 1, 2), 19, "form 2: 19");
            for (int degree = 21; degree < 40; degree++) {
                String by = degree + " 0";
                Expect.refused("by " + by, () -> Made.forms("0", by), x -> x.power(0, 0, 1, 0));
                Expect.refused("by " + by, () -> Made.forms("0", by), x -> x.power(1, 2, 1, 1));
            }
        });
        s.that("Throws IndexOutOfBoundsException if form is not 0 to 5", "-1 and 6, 0 and 5", () ->
            Expect.formsOnly("power", (x, form) -> x.power(form, 2, 4, 5)));
        s.that("by is not", "-1 and 6, 0 and 5", () ->
            Expect.formsOnly("power", (x, by) -> x.power(5, 2, by, 5)));
        s.that("or into is not", "-1 and 6, 0 and 5; ahead of REFUSED", () -> {
            Expect.formsOnly("power", (x, into) -> x.power(5, 2, 2, into));
            Expect.formsOnly("power", (x, into) -> x.power(5, 2, 3, into));
        });
        s.that("Throws IllegalArgumentException if many is not 0 to 255", "-1 and 256, 0 and 255; ahead of REFUSED", () -> {
            Expect.notArguments("power", (x, many) -> x.power(0, many, 4, 1), -1, 256, LEAST, GREATEST);
            Expect.notArguments("by none", (x, many) -> x.power(0, many, 2, 1), -1, 256);
            Expect.notArguments("by 39", (x, many) -> x.power(0, many, 3, 1), -1, 256);
            Expect.right("power", (x, many) -> x.power(0, many, 4, 1), 0, 1, 255);
        });
        s.that("Throws IndexOutOfBoundsException", "ahead of many", () -> {
            Expect.notIndexes("power", (x, form) -> x.power(form, 256, 0, 0), -1, 6);
            Expect.notIndexes("power", (x, by) -> x.power(0, -1, by, 0), -1, 6);
            Expect.notIndexes("power", (x, into) -> x.power(0, 256, 0, into), -1, 6);
        });
    }

    private static void p18AllPrimes(Sentences s) {
        s.under("Promise 18");
        s.that("A FORM becomes the PRODUCT of all PRIMES whose DEGREE divides n, each once", "1 to 5", () -> {
            for (int n = 1; n <= 5; n++) {
                int many = n;
                BitSet product = PlainForm.ofPlace(0);
                for (long code = 2; code < 64; code++) {
                    BitSet form = PlainForm.ofCode(code);
                    if (PlainForm.isPrime(form) && n % PlainForm.degree(form) == 0) {
                        product = PlainForm.product(product, form);
                    }
                }
                Expect.does("of " + n, Made::full, x -> x.allPrimes(many, 5), 1 << n,
                    "form 5: " + PlainForm.text(product));
            }
        });
        s.that("Returns its DEGREE then", "into each form", () -> {
            for (int into = 0; into < 6; into++) {
                int form = into;
                Expect.does("of 1", Made::busy, x -> x.allPrimes(1, form), 2, "form " + form + ": 2 1");
                Expect.does("of 5", Made::busy, x -> x.allPrimes(5, form), 32, "form " + form + ": 32 1");
            }
        });
        s.that("Throws IndexOutOfBoundsException if into is not 0 to 5", "-1 and 6, 0 and 5", () ->
            Expect.formsOnly("allPrimes", (x, into) -> x.allPrimes(5, into)));
        s.that("Throws IllegalArgumentException if n is not 1 to 5", "0 and 6, 1 and 5", () -> {
            Expect.notArguments("allPrimes", (x, n) -> x.allPrimes(n, 0), 0, 6, -1, LEAST, GREATEST);
            Expect.right("allPrimes", (x, n) -> x.allPrimes(n, 0), 1, 2, 3, 4, 5);
        });
        s.that("Throws IndexOutOfBoundsException", "ahead of n", () -> {
            Expect.notIndexes("allPrimes", (x, into) -> x.allPrimes(0, into), -1, 6);
            Expect.notIndexes("allPrimes", (x, into) -> x.allPrimes(6, into), -1, 6);
        });
    }

    private static void p19Seal(Sentences s) {
        s.under("Promise 19");
        s.that("A FORM becomes SEALED", "each by each into each", () -> {
            for (int[] given : Triples.all()) {
                BitSet by = Triples.formOf(given[1]);
                BitSet shifted = PlainForm.shifted(Triples.formOf(given[0]), PlainForm.degree(by));
                BitSet check = PlainForm.divided(shifted, by)[1];
                if (PlainForm.degree(by) > 0) {
                    Expect.does("seal", Triples::made, x -> x.seal(given[0], given[1], given[2]), check.cardinality(),
                        "form " + given[2] + ": " + PlainForm.text(PlainForm.sum(shifted, check)));
                }
            }
        });
        s.that("Returns how many ones the CHECK has", "none, one, many", () -> {
            Expect.does("of an empty one", () -> Made.forms("", "5 2 0", "3"), x -> x.seal(0, 1, 2), 0, "form 2: ");
            Expect.does("by x", () -> Made.forms("3 0", "1"), x -> x.seal(0, 1, 2), 0, "form 2: 4 1");
            Expect.does("the unit by 3", () -> Made.forms("0", "1 0"), x -> x.seal(0, 1, 2), 1, "form 2: 1 0");
            Expect.does("the unit by a full one", () -> Made.forms("0", FULL), x -> x.seal(0, 1, 2), 39, "form 2: " + FULL);
        });
        s.that("REFUSED if the DEGREE of the seal is below 1", "none, 0 and 1", () -> {
            for (String form : new String[] {"", "0", "38 0", FULL}) {
                for (int into = 0; into < 3; into++) {
                    int third = into;
                    Expect.refused("by none", () -> Made.forms(form, "", "3"), x -> x.seal(0, 1, third));
                    Expect.refused("by the unit", () -> Made.forms(form, "0", "3"), x -> x.seal(0, 1, third));
                }
            }
            Expect.same("by x", Made.forms("38 0", "1").seal(0, 1, 2), 0);
            Expect.same("by 3", Made.forms("38", "1 0").seal(0, 1, 2), 1);
        });
        s.that("or both DEGREES are together above 39", "39, 40 and 78", () -> {
            for (int degree = 1; degree < 40; degree++) {
                String by = String.valueOf(degree);
                String right = degree == 39 ? "0" : 39 - degree + " 0";
                String wrong = String.valueOf(40 - degree);
                Expect.does("39", () -> Made.forms(right, by), x -> x.seal(0, 1, 2), 0,
                    "form 2: 39" + (degree == 39 ? "" : " " + degree));
                for (int into = 0; into < 3; into++) {
                    int third = into;
                    Expect.refused("40", () -> Made.forms(wrong, by), x -> x.seal(0, 1, third));
                }
            }
            Expect.refused("78", Made::full, x -> x.seal(0, 1, 2));
            Expect.refused("78, of one", Made::full, x -> x.seal(0, 0, 0));
        });
        s.that("or both DEGREES are together above 39", "an empty one by each seal is never too long", () -> {
            for (int degree = 1; degree < 40; degree++) {
                String by = degree + " 0";
                Expect.does("by " + degree, () -> Made.forms("", by, "3"), x -> x.seal(0, 1, 2), 0, "form 2: ");
            }
        });
        s.that("Throws IndexOutOfBoundsException if form is not 0 to 5", "-1 and 6, 0 and 5", () ->
            Expect.formsOnly("seal", (x, form) -> x.seal(form, 0, 5)));
        s.that("by is not", "-1 and 6, 0 and 5", () ->
            Expect.formsOnly("seal", (x, by) -> x.seal(0, by, 5)));
        s.that("or into is not", "-1 and 6, 0 and 5; ahead of REFUSED", () -> {
            Expect.formsOnly("seal", (x, into) -> x.seal(0, 2, into));
            Expect.formsOnly("seal", (x, into) -> x.seal(3, 3, into));
        });
    }

    private static void p20Burst(Sentences s) {
        s.under("Promise 20");
        s.that("A BURST comes to a FORM", "as a sum, to each form alone", () -> {
            for (int form = 0; form < 6; form++) {
                int one = form;
                BitSet was = Made.busy().text(form).isEmpty() ? new BitSet() : placesOf(Made.busy(), form);
                BitSet due = PlainForm.sum(was, PlainForm.shifted(PlainForm.ofCode(4095), 28));
                Expect.does("burst", Made::busy, x -> x.burst(one, 28, 4095), due.cardinality(),
                    "form " + one + ": " + PlainForm.text(due));
            }
        });
        s.that("A BURST comes to a FORM", "of the code 0: nothing is other", () -> {
            Expect.does("at 0", Made::busy, x -> x.burst(0, 0, 0), 3);
            Expect.does("at 39", Made::busy, x -> x.burst(0, 39, 0), 3);
            Expect.does("of a full one", Made::full, x -> x.burst(5, 39, 0), 40);
        });
        s.that("by how many places the FORM of the CODE is shifted", "each place and each length of the code", () -> {
            for (int place = 0; place < 40; place++) {
                for (int degree = 0; degree < 12; degree++) {
                    burstAt(place, degree);
                }
            }
        });
        s.that("Returns how many ones the FORM has then", "none, some, all", () -> {
            Expect.does("none", () -> Made.forms("39 38"), x -> x.burst(0, 38, 3), 0, "form 0: ");
            Expect.does("all", () -> Made.forms(Made.run(0, 28)), x -> x.burst(0, 28, 4095), 40, "form 0: " + FULL);
            Expect.does("of two that are unlike", () -> Made.forms("1"), x -> x.burst(0, 0, 3), 1, "form 0: 0");
        });
        s.that("REFUSED if a 1 would come above the place 39", "39 and 40", () -> {
            Expect.same("4095 at 28", new Formwheel().burst(0, 28, 4095), 12);
            Expect.refused("4095 at 29", Made::busy, x -> x.burst(0, 29, 4095));
            Expect.same("1 at 39", new Formwheel().burst(0, 39, 1), 1);
            Expect.refused("2 at 39", Made::busy, x -> x.burst(0, 39, 2));
            Expect.refused("3 at 39", Made::full, x -> x.burst(0, 39, 3));
            Expect.refused("4095 at 39", Formwheel::new, x -> x.burst(0, 39, 4095));
        });
        s.that("Throws IndexOutOfBoundsException if form is not 0 to 5", "-1 and 6, 0 and 5", () ->
            Expect.formsOnly("burst", (x, form) -> x.burst(form, 39, 1)));
        s.that("or place is not 0 to 39", "-1 and 40, 0 and 39", () -> {
            Expect.notIndexes("burst", (x, place) -> x.burst(0, place, 0), -1, 40, 64, LEAST, GREATEST);
            Expect.notIndexes("burst", (x, place) -> x.burst(0, place, 4095), -1, 40);
            Expect.right("burst", (x, place) -> x.burst(0, place, 1), 0, 1, 38, 39);
        });
        s.that("Throws IllegalArgumentException if code is not 0 to 4095", "-1 and 4096, 0 and 4095; ahead of REFUSED",
            () -> {
                Expect.notArguments("burst", (x, code) -> x.burst(0, 0, code), -1, 4096, LEAST, GREATEST);
                Expect.notArguments("burst at 39", (x, code) -> x.burst(0, 39, code), -1, 4096);
                Expect.right("burst", (x, code) -> x.burst(0, 0, code), 0, 1, 4095);
            });
        s.that("Throws IndexOutOfBoundsException", "ahead of the code", () -> {
            Expect.notIndexes("burst", (x, form) -> x.burst(form, 0, 4096), -1, 6);
            Expect.notIndexes("burst", (x, place) -> x.burst(0, place, -1), -1, 40);
        });
    }

    private static void burstAt(int place, int degree) {
        int code = 1 << degree | 1;
        BitSet due = PlainForm.shifted(PlainForm.ofCode(code), place);
        if (place + degree > 39) {
            Expect.refused(code + " at " + place, Made::busy, x -> x.burst(2, place, code));
        } else {
            Expect.does(code + " at " + place, Made::busy, x -> x.burst(2, place, code), due.cardinality(),
                "form 2: " + PlainForm.text(due));
        }
    }

    private static BitSet placesOf(Formwheel x, int form) {
        BitSet places = new BitSet();
        for (int place = 0; place < 40; place++) {
            places.set(place, x.has(form, place));
        }
        return places;
    }
}
