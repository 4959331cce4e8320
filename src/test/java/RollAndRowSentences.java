import java.util.Arrays;

/** The sentences of promises 21 to 31: the acts on the roll and on the shift row. */
final class RollAndRowSentences {
    private static final int LEAST = Integer.MIN_VALUE;
    private static final int GREATEST = Integer.MAX_VALUE;
    private static final String FULL = Made.run(0, 40);
    private static final String[] NUMBERS = {"0", "1", "1 0", "2", "2 0", "2 1", "2 1 0", "3", "3 0", "3 1", "3 1 0", "3 2"};

    private RollAndRowSentences() {
    }

    static void tell(Sentences s) {
        p21Factor(s);
        p22Enroll(s);
        p23Strike(s);
        p24Clear(s);
        p25Sort(s);
        p26TurnAll(s);
        p27Take(s);
        p28Product(s);
        p29Start(s);
        p30Step(s);
        p31Load(s);
    }

    /** The roll as Look tells it: each one in brackets. */
    private static String roll(String... texts) {
        StringBuilder seen = new StringBuilder("roll: ");
        for (String text : texts) {
            seen.append('[').append(text).append(']');
        }
        return seen.toString();
    }

    /** 12 unlike ones: the codes 1 to 12. */
    private static Formwheel twelve() {
        return Made.rollOf(NUMBERS);
    }

    private static void p21Factor(Sentences s) {
        s.under("Promise 21");
        s.that("The ROLL becomes the FACTORS of a FORM; all that it had goes", "none, three and 12 go", () -> {
            for (int how = 0; how < 2; how++) {
                int by = how;
                Expect.does("none", () -> Made.of(37), x -> x.factor(0, by), 1, roll("5 2 0"));
                Expect.does("three", Made::busy, x -> x.factor(0, by), 1, roll("5 2 0"));
                Expect.does("12", () -> Made.rolled(12, 1024), x -> x.factor(0, by), 10,
                    roll("1", "1", "1", "1", "1", "1", "1", "1", "1", "1"));
            }
        });
        s.that("all that it had goes", "many forms, one behind the other, of one object", () -> {
            for (int how = 0; how < 2; how++) {
                Formwheel x = new Formwheel();
                for (int times = 0; times < 100; times++) {
                    int code = 2 + times * 97 % 2046;
                    x.set(0, code);
                    x.factor(0, how);
                    Formwheel alone = Made.of(code);
                    alone.factor(0, how);
                    Expect.same("of " + code, rollBriefly(x), rollBriefly(alone));
                }
            }
        });
        s.that("The ROLL becomes the FACTORS of a FORM", "they stay, whatever becomes of the form", () -> {
            Formwheel x = Made.of(37);
            x.factor(0, 0);
            x.set(0, 3);
            Expect.same("roll", Look.rollOf(x), "[5 2 0]");
        });
        s.that("0 by TRYING, the least one first", "unlike ones, like ones", () -> {
            Expect.does("1023", () -> Made.of(1023), x -> x.factor(0, 0), 3,
                roll("1 0", "4 3 2 1 0", "4 3 2 1 0"));
            Expect.does("unlike ones of a degree", () -> Made.of(254), x -> x.factor(0, 0), 3,
                roll("1", "3 1 0", "3 2 0"));
            Expect.does("x and 3", () -> Made.of(6), x -> x.factor(0, 0), 2, roll("1", "1 0"));
        });
        s.that("1 by DEGREES, the greatest one first", "unlike ones, like ones", () -> {
            Expect.does("1023", () -> Made.of(1023), x -> x.factor(0, 1), 3,
                roll("4 3 2 1 0", "4 3 2 1 0", "1 0"));
            Expect.does("unlike ones of a degree", () -> Made.of(254), x -> x.factor(0, 1), 3,
                roll("3 2 0", "3 1 0", "1"));
            Expect.does("x and 3", () -> Made.of(6), x -> x.factor(0, 1), 2, roll("1 0", "1"));
        });
        s.that("Returns how many they are", "1 to 10", () -> {
            for (int how = 0; how < 2; how++) {
                for (int degree = 1; degree <= 10; degree++) {
                    Expect.same("x by itself", Made.of(1 << degree).factor(0, how), degree);
                }
                Expect.same("a prime of degree 10", Made.of(1033).factor(0, how), 1);
                Expect.same("of degree 1", Made.of(3).factor(0, how), 1);
            }
        });
        s.that("REFUSED if its DEGREE is not 1 to 10", "none, 0, 1, 10, 11 and more", () -> {
            for (int how = 0; how < 2; how++) {
                int by = how;
                Expect.refused("none", Made::busy, x -> x.factor(2, by));
                Expect.refused("0", Made::busy, x -> x.factor(4, by));
                for (int degree = 1; degree <= 10; degree++) {
                    Expect.so("degree " + degree, Made.of(1 << degree | 1).factor(0, how) > 0);
                }
                for (int degree = 11; degree < 40; degree++) {
                    String text = degree + " 0";
                    Expect.refused("degree " + degree, () -> Made.forms(text), x -> x.factor(0, by));
                }
                Expect.refused("the roll stays", Made::full, x -> x.factor(0, by));
            }
        });
        s.that("Throws IndexOutOfBoundsException if form is not 0 to 5", "-1 and 6, 0 and 5", () -> {
            Expect.formsOnly("factor", (x, form) -> x.factor(form, 0));
            Expect.formsOnly("factor", (x, form) -> x.factor(form, 1));
        });
        s.that("Throws IllegalArgumentException if how is not 0 or 1", "-1 and 2, 0 and 1; ahead of REFUSED", () -> {
            Expect.notArguments("factor", (x, how) -> x.factor(0, how), -1, 2, LEAST, GREATEST);
            Expect.notArguments("of none", (x, how) -> x.factor(2, how), -1, 2);
            Expect.right("factor", (x, how) -> x.factor(0, how), 0, 1);
        });
        s.that("Throws IndexOutOfBoundsException", "ahead of how", () ->
            Expect.notIndexes("factor", (x, form) -> x.factor(form, 2), -1, 6));
    }

    /** Few calls: the product and how many they are tell the roll of one form's factors. */
    private static String rollBriefly(Formwheel x) {
        x.product(1);
        return x.house(3) + ": " + x.text(1);
    }

    private static void p22Enroll(Sentences s) {
        s.under("Promise 22");
        s.that("A FORM comes to the end of the ROLL, too", "behind none, one, and 11", () -> {
            Expect.does("behind none", () -> Made.of(37), x -> x.enroll(0), 1, roll("5 2 0"));
            Expect.does("behind one", () -> Made.roll(37), x -> x.enroll(1), 2, roll("5 2 0", ""));
            Formwheel x = twelve();
            x.strike(11);
            x.set(5, 37);
            Expect.same("behind 11", x.enroll(5), 12);
            Expect.same("the last one", x.rollText(11), "5 2 0");
            Expect.same("the one ahead", x.rollText(10), "3 1 0");
        });
        s.that("A FORM comes to the end of the ROLL, too", "the empty one and the full one", () -> {
            Expect.does("empty", Formwheel::new, x -> x.enroll(5), 1, roll(""));
            Expect.does("full", () -> Made.forms(FULL), x -> x.enroll(0), 1, roll(FULL));
        });
        s.that("(there it stays so, whatever becomes of the FORM)", "set, and one digit", () -> {
            Formwheel x = Made.forms("5 2 0");
            x.enroll(0);
            x.digit(0, 39, 1);
            Expect.same("behind a digit", Look.rollOf(x), "[5 2 0]");
            x.set(0, 0);
            Expect.same("behind set", Look.rollOf(x), "[5 2 0]");
        });
        s.that("Returns how many it has then", "1 to 12", () -> {
            Formwheel x = new Formwheel();
            for (int many = 1; many <= 12; many++) {
                Expect.same("the answer", x.enroll(0), many);
            }
        });
        s.that("REFUSED if it has 12", "11 and 12", () -> {
            Expect.same("at 11", Made.rolled(11, 5).enroll(0), 12);
            Expect.refused("at 12", () -> Made.rolled(12, 5), x -> x.enroll(0));
            Expect.refused("at 12, an empty one", () -> Made.rolled(12, 5), x -> x.enroll(5));
            Formwheel x = Made.rolled(12, 5);
            x.strike(3);
            Expect.same("one went", x.enroll(0), 12);
        });
        s.that("Throws IndexOutOfBoundsException if form is not 0 to 5", "-1 and 6, 0 and 5; ahead of REFUSED", () ->
            Expect.formsOnly("enroll", Formwheel::enroll));
    }

    private static void p23Strike(Sentences s) {
        s.under("Promise 23");
        s.that("One of the ROLL goes; those behind it have numbers that are 1 less", "each of 12", () -> {
            for (int k = 0; k < 12; k++) {
                int number = k;
                String[] left = new String[11];
                System.arraycopy(NUMBERS, 0, left, 0, k);
                System.arraycopy(NUMBERS, k + 1, left, k, 11 - k);
                Expect.does("strike(" + k + ")", RollAndRowSentences::twelve, x -> x.strike(number),
                    Integer.parseInt(NUMBERS[k].split(" ")[0]), roll(left));
            }
        });
        s.that("One of the ROLL goes", "one alone", () ->
            Expect.does("strike(0)", () -> Made.roll(37), x -> x.strike(0), 5, roll()));
        s.that("Returns its DEGREE", "none, 0, 39", () -> {
            Expect.does("of an empty one", () -> Made.rollOf("5", "", "6"), x -> x.strike(1), -1, roll("5", "6"));
            Expect.does("of the unit", () -> Made.rollOf("5", "0", "6"), x -> x.strike(1), 0, roll("5", "6"));
            Expect.does("of 39", () -> Made.rollOf("5", "39", "6"), x -> x.strike(1), 39, roll("5", "6"));
        });
        s.that("Throws IndexOutOfBoundsException if there is none with that number", "-1, and how many there are", () -> {
            for (int many = 0; many <= 12; many++) {
                int size = many;
                Expect.index("behind the last of " + many, () -> Made.rolled(size, 5), x -> x.strike(size));
                Expect.index("-1 of " + many, () -> Made.rolled(size, 5), x -> x.strike(-1));
                if (size > 0) {
                    Expect.same("the last one", Made.rolled(size, 5).strike(size - 1), 2);
                }
            }
            Expect.notIndexes("strike", Formwheel::strike, -1, 12, 13, LEAST, GREATEST);
            Expect.index("none is left", () -> struckOut(), x -> x.strike(0));
        });
    }

    private static Formwheel struckOut() {
        Formwheel x = Made.roll(5, 6);
        x.strike(0);
        x.strike(0);
        return x;
    }

    private static void p24Clear(Sentences s) {
        s.under("Promise 24");
        s.that("All of the ROLL go", "none, one, 12", () -> {
            Expect.does("none", Formwheel::new, Formwheel::clear, 0, roll());
            Expect.does("one", () -> Made.roll(37), Formwheel::clear, 1, roll());
            Expect.does("12", Made::full, Formwheel::clear, 12, roll());
        });
        s.that("Returns how many they were", "0 to 12", () -> {
            for (int many = 0; many <= 12; many++) {
                Expect.same("of " + many, Made.rolled(many, 5).clear(), many);
            }
            Formwheel x = Made.full();
            x.clear();
            Expect.same("once more", x.clear(), 0);
        });
    }

    private static void p25Sort(Sentences s) {
        s.under("Promise 25");
        s.that("Those of the ROLL are put in a row by which one is lesser", "none, one, 12", () -> {
            Expect.does("none", Formwheel::new, x -> x.sort(false), 0);
            Expect.does("none, falling", Formwheel::new, x -> x.sort(true), 0);
            Expect.does("one", () -> Made.roll(37), x -> x.sort(false), 0);
            Expect.does("one, falling", () -> Made.roll(37), x -> x.sort(true), 0);
            Expect.does("12", () -> turnedAbout(), x -> x.sort(false), 12, roll(NUMBERS));
        });
        s.that("whether the greatest one comes first, otherwise the least one", "the empty one and the full one", () -> {
            Expect.does("falling", () -> Made.rollOf("", "0", FULL), x -> x.sort(true), 2, roll(FULL, "0", ""));
            Expect.does("rising", () -> Made.rollOf(FULL, "0", ""), x -> x.sort(false), 2, roll("", "0", FULL));
        });
        s.that("by which one is lesser", "not by the degree, nor by the ones, alone", () -> {
            Expect.does("of one degree", () -> Made.rollOf("39 1", "39 2", "39 0"), x -> x.sort(false), 3,
                roll("39 0", "39 1", "39 2"));
            Expect.does("of more ones", () -> Made.rollOf("39", Made.run(0, 39)), x -> x.sort(false), 2,
                roll(Made.run(0, 39), "39"));
            Expect.does("above the place 31", () -> Made.rollOf("32", "31", "39"), x -> x.sort(true), 3,
                roll("39", "32", "31"));
        });
        s.that("(like ones as they stand)", "all are like, or some", () -> {
            Expect.does("all of 12", Made::full, x -> x.sort(true), 0);
            Expect.does("some", () -> Made.rollOf("5", "3", "5", "3"), x -> x.sort(false), 2, roll("3", "3", "5", "5"));
            Expect.does("some, falling", () -> Made.rollOf("5", "3", "5", "3"), x -> x.sort(true), 2,
                roll("5", "5", "3", "3"));
        });
        s.that("Returns at how many places other digits stand then", "none, two, 11 and 12", () -> {
            Expect.does("as they stand", RollAndRowSentences::twelve, x -> x.sort(false), 0);
            Expect.does("two", () -> Made.rollOf("1", "0", "2"), x -> x.sort(false), 2, roll("0", "1", "2"));
            Expect.does("the one between stays", () -> Made.rollOf("2", "1", "0"), x -> x.sort(false), 2,
                roll("0", "1", "2"));
            Expect.does("12", RollAndRowSentences::twelve, x -> x.sort(true), 12,
                roll("3 2", "3 1 0", "3 1", "3 0", "3", "2 1 0", "2 1", "2 0", "2", "1 0", "1", "0"));
        });
    }

    private static Formwheel turnedAbout() {
        Formwheel x = twelve();
        x.sort(true);
        return x;
    }

    private static void p26TurnAll(Sentences s) {
        s.under("Promise 26");
        s.that("Each one of the ROLL becomes TURNED", "none, one, 12", () -> {
            Expect.does("none", Formwheel::new, Formwheel::turnAll, 0);
            Expect.does("one", () -> Made.rollOf("5 1"), Formwheel::turnAll, 1, roll("4 0"));
            Expect.does("12", RollAndRowSentences::twelve, Formwheel::turnAll, 7,
                roll("0", "0", "1 0", "0", "2 0", "1 0", "2 1 0", "0", "3 0", "2 0", "3 2 0", "1 0"));
        });
        s.that("Each one of the ROLL becomes TURNED", "the forms stay", () ->
            Expect.does("of form 0", () -> Made.roll(6), Formwheel::turnAll, 1, roll("1 0")));
        s.that("Returns how many are other ones then", "the empty one, the unit, the full one stay", () -> {
            Expect.does("none is another", () -> Made.rollOf("", "0", FULL, "39 0"), Formwheel::turnAll, 0);
            Expect.does("one is", () -> Made.rollOf("", "39", FULL), Formwheel::turnAll, 1, roll("", "0", FULL));
            Expect.does("12 are", () -> Made.rolled(12, 2), Formwheel::turnAll, 12,
                roll("0", "0", "0", "0", "0", "0", "0", "0", "0", "0", "0", "0"));
        });
    }

    private static void p27Take(Sentences s) {
        s.under("Promise 27");
        s.that("A FORM becomes one of the ROLL, which stays there", "each of 12, into each form", () -> {
            for (int k = 0; k < 12; k++) {
                for (int into = 0; into < 6; into++) {
                    int number = k;
                    int form = into;
                    Expect.does("take", RollAndRowSentences::twelve, x -> x.take(number, form),
                        Integer.parseInt(NUMBERS[k].split(" ")[0]), "form " + into + ": " + NUMBERS[k]);
                }
            }
        });
        s.that("which stays there", "whatever becomes of the form", () -> {
            Formwheel x = Made.rollOf("5 2 0");
            x.take(0, 3);
            x.digit(3, 9, 1);
            Expect.same("roll", Look.rollOf(x), "[5 2 0]");
        });
        s.that("Returns its DEGREE", "none, 0, 39", () -> {
            Expect.does("an empty one", () -> Made.rollOf("", "0", "39"), x -> x.take(0, 0), -1, "form 0: ");
            Expect.does("the unit", () -> Made.rollOf("", "0", "39"), x -> x.take(1, 0), 0, "form 0: 0");
            Expect.does("39", () -> Made.rollOf("", "0", "39"), x -> x.take(2, 5), 39, "form 5: 39");
        });
        s.that("Throws IndexOutOfBoundsException if there is none with that number", "-1, and how many there are", () -> {
            for (int many = 0; many <= 12; many++) {
                int size = many;
                Expect.index("behind the last of " + many, () -> Made.rolled(size, 5), x -> x.take(size, 0));
                Expect.index("-1 of " + many, () -> Made.rolled(size, 5), x -> x.take(-1, 0));
                if (size > 0) {
                    Expect.same("the last one", Made.rolled(size, 5).take(size - 1, 1), 2);
                }
            }
            Expect.notIndexes("take", (x, k) -> x.take(k, 0), -1, 12, LEAST, GREATEST);
        });
        s.that("or into is not 0 to 5", "-1 and 6, 0 and 5", () -> {
            Expect.notIndexes("take", (x, into) -> x.take(0, into), -1, 6, LEAST, GREATEST);
            Expect.notIndexes("both", (x, number) -> x.take(number, number), -1, 12);
            for (int form = 0; form < 6; form++) {
                Expect.same("into " + form, Made.roll(37).take(0, form), 5);
            }
        });
    }

    private static void p28Product(Sentences s) {
        s.under("Promise 28");
        s.that("A FORM becomes the PRODUCT of all of the ROLL", "one, three, 12", () -> {
            Expect.does("one", () -> Made.rollOf(FULL), x -> x.product(5), 39, "form 5: " + FULL);
            Expect.does("three", () -> Made.roll(7, 5, 3), x -> x.product(0), 5, "form 0: 5 3 2 0");
            Expect.does("12", () -> Made.rolled(12, 8), x -> x.product(1), 36, "form 1: 36");
            Expect.does("12 units", () -> Made.rolled(12, 1), x -> x.product(1), 0, "form 1: 0");
        });
        s.that("(of none: the UNIT)", "at first, and when all have gone", () -> {
            Expect.does("at first", () -> Made.of(37), x -> x.product(0), 0, "form 0: 0");
            Expect.does("into each", Formwheel::new, x -> x.product(5), 0, "form 5: 0");
            Formwheel x = Made.full();
            x.clear();
            Expect.same("all have gone", x.product(0), 0);
        });
        s.that("Returns its DEGREE then", "none, 0, 39", () -> {
            Expect.does("none", () -> Made.rollOf("0", "", "0"), x -> x.product(1), -1, "form 1: ");
            Expect.does("0", () -> Made.rollOf("0", "0"), x -> x.product(1), 0, "form 1: 0");
            Expect.does("39", () -> Made.rollOf("19 0", "20 0"), x -> x.product(1), 39, "form 1: 39 20 19 0");
        });
        s.that("REFUSED if none of them is EMPTY, and their DEGREES are together above 39", "39 and 40", () -> {
            Expect.does("39 of one", () -> Made.rollOf("39"), x -> x.product(1), 39, "form 1: 39");
            Expect.does("39 of two", () -> Made.rollOf("39", "0"), x -> x.product(1), 39, "form 1: 39");
            Expect.does("39 of 12", () -> twelveOf("6"), x -> x.product(1), 39, "form 1: 39");
            Expect.refused("40 of two", () -> Made.rollOf("39", "1"), x -> x.product(0));
            Expect.refused("40 of 12", () -> twelveOf("7"), x -> x.product(1));
            Expect.refused("468", Made::full, x -> x.product(1));
        });
        s.that("REFUSED if none of them is EMPTY", "an empty one at each number, however long the others", () -> {
            for (int k = 0; k < 12; k++) {
                String[] texts = new String[12];
                Arrays.fill(texts, FULL);
                texts[k] = "";
                Expect.does("at " + k, () -> Made.rollOf(texts), x -> x.product(3), -1, "form 3: ");
            }
            Expect.does("alone", () -> Made.rollOf(""), x -> x.product(3), -1, "form 3: ");
            Expect.does("with a full one", () -> Made.rollOf(FULL, ""), x -> x.product(3), -1, "form 3: ");
            Expect.does("two, with 40", () -> Made.rollOf("", "39", "1", ""), x -> x.product(0), -1, "form 0: ");
        });
        s.that("Throws IndexOutOfBoundsException if into is not 0 to 5", "-1 and 6, 0 and 5; ahead of REFUSED", () ->
            Expect.formsOnly("product", Formwheel::product));
    }

    /** Eleven of degree 3, and one more. */
    private static Formwheel twelveOf(String last) {
        String[] texts = new String[12];
        Arrays.fill(texts, "3");
        texts[5] = last;
        return Made.rollOf(texts);
    }

    private static void p29Start(Sentences s) {
        s.under("Promise 29");
        s.that("The SHIFT ROW gets other TAPS, and is begun anew", "each degree from 1 to 8", () -> {
            for (int degree = 1; degree <= 8; degree++) {
                int taps = 1 << degree | 1;
                int cells = degree;
                Expect.does("start of " + taps, () -> Made.of(taps), x -> x.start(0), cells,
                    "taps: " + taps, "cells: " + "0".repeat(degree - 1) + "1");
            }
        });
        s.that("and is begun anew", "with the same taps", () -> {
            Formwheel x = Made.row(37);
            x.load(31);
            x.start(0);
            Expect.same("row", x.house(4) + " " + x.rowText(), "37 00001");
            x.load(0);
            x.start(0);
            Expect.same("row of no ones", x.rowText(), "00001");
        });
        s.that("and is begun anew", "fewer cells, more cells", () -> {
            Expect.does("8 to 1", () -> withForm(Made.full(), 3), x -> x.start(0), 1, "taps: 3", "cells: 1");
            Expect.does("5 to 8", () -> withForm(Made.busy(), 511), x -> x.start(0), 8, "taps: 511", "cells: 00000001");
        });
        s.that("(they stay so, whatever becomes of it)", "set, and another start refused", () -> {
            Formwheel x = Made.row(37);
            x.set(0, 6);
            Expect.same("behind set", x.house(4), 37);
            x.start(0);
            Expect.same("behind a refused one", x.house(4) + " " + x.rowText(), "37 00001");
        });
        s.that("Returns how many cells it has then", "1 to 8", () -> {
            for (int degree = 1; degree <= 8; degree++) {
                Expect.same("the greatest of a degree", Made.of((2 << degree) - 1).start(0), degree);
            }
        });
        s.that("REFUSED if it is no WHEEL", "the degrees none, 0, 1, 8, 9", () -> {
            Expect.refused("none", Made::busy, x -> x.start(2));
            Expect.refused("0", Made::busy, x -> x.start(4));
            Expect.same("1", Made.of(3).start(0), 1);
            Expect.same("8", Made.of(257).start(0), 8);
            Expect.refused("9", () -> withForm(Made.busy(), 513), x -> x.start(0));
            Expect.refused("39", () -> Made.forms("39 0"), x -> x.start(0));
        });
        s.that("REFUSED if it is no WHEEL", "without a last digit", () -> {
            for (int degree = 1; degree <= 8; degree++) {
                int code = (2 << degree) - 2;
                Expect.refused("of " + code, () -> withForm(Made.full(), code), x -> x.start(0));
            }
        });
        s.that("Throws IndexOutOfBoundsException if form is not 0 to 5", "-1 and 6, 0 and 5; ahead of REFUSED", () ->
            Expect.formsOnly("start", Formwheel::start));
    }

    private static Formwheel withForm(Formwheel x, int code) {
        x.set(0, code);
        return x;
    }

    private static void p30Step(Sentences s) {
        s.under("Promise 30");
        s.that("So many STEPS", "0: nothing is other", () -> {
            Expect.does("of 5 cells", Made::busy, x -> x.step(0), 0);
            Expect.does("of 8 cells", Made::full, x -> x.step(0), 0);
        });
        s.that("So many STEPS", "many at once, or one by one, 0 to 255", () -> {
            Formwheel one = Made.row(285);
            for (int many = 0; many <= 255; many++) {
                Formwheel x = Made.row(285);
                x.step(many);
                Expect.same("behind " + many, x.rowText(), one.rowText());
                one.step(1);
            }
        });
        s.that("So many STEPS", "around, and to the begin", () -> {
            Expect.does("255 of 285", () -> Made.row(285), x -> x.step(255), 128);
            Expect.does("254 of 285", () -> Made.row(285), x -> x.step(254), 127, "cells: 10000000");
        });
        s.that("Returns how many of the digits that went were 1", "none, some, all", () -> {
            Expect.does("all of one cell", Formwheel::new, x -> x.step(255), 255);
            Expect.does("one", Formwheel::new, x -> x.step(1), 1);
            Expect.does("none of no ones", () -> withCells(511, 0), x -> x.step(255), 0);
            Expect.does("the first 7 of 8", () -> Made.row(257), x -> x.step(7), 0, "cells: 10000000");
            Expect.does("and the 8th", () -> Made.row(257), x -> x.step(8), 1);
            Expect.does("of 9 that come round", () -> withCells(511, 255), x -> x.step(9), 8);
        });
        s.that("Throws IllegalArgumentException if many is not 0 to 255", "-1 and 256, 0 and 255", () -> {
            Expect.notArguments("step", Formwheel::step, -1, 256, LEAST, GREATEST);
            Expect.right("step", Formwheel::step, 0, 1, 255);
        });
    }

    private static Formwheel withCells(int taps, int code) {
        Formwheel x = Made.row(taps);
        x.load(code);
        return x;
    }

    private static void p31Load(Sentences s) {
        s.under("Promise 31");
        s.that("The cells get digits: the cell k that at the place k of the FORM of a CODE", "each cell", () -> {
            for (int cell = 0; cell < 8; cell++) {
                int code = 1 << cell;
                Expect.does("load", Made::full, x -> x.load(code), 7,
                    "cells: " + "0".repeat(cell) + "1" + "0".repeat(7 - cell));
            }
        });
        s.that("The cells get digits", "the code 0: none has a 1", () -> {
            Expect.does("8 cells", Made::full, x -> x.load(0), 8, "cells: 00000000");
            Expect.does("one cell", Formwheel::new, x -> x.load(0), 1, "cells: 0");
        });
        s.that("Returns how many cells have another digit then", "none, one, all", () -> {
            Expect.does("none", Made::full, x -> x.load(255), 0);
            Expect.does("one", Made::full, x -> x.load(127), 1, "cells: 11111110");
            Expect.does("all", () -> withCells(511, 0x55), x -> x.load(0xAA), 8, "cells: 01010101");
        });
        s.that("REFUSED if that FORM has a 1 at a place that is no cell", "the last cell, and the place behind it", () -> {
            for (int degree = 1; degree <= 8; degree++) {
                int taps = 1 << degree | 1;
                int behind = 1 << degree;
                Expect.does("the last cell of " + degree, () -> Made.row(taps), x -> x.load(behind / 2), 0);
                int others = degree - 1;
                Expect.does("all of " + degree, () -> Made.row(taps), x -> x.load(behind - 1), others,
                    "cells: " + "1".repeat(degree));
                if (degree < 8) {
                    Expect.refused("behind " + degree, () -> Made.row(taps), x -> x.load(behind));
                    Expect.refused("behind, with all", () -> Made.row(taps), x -> x.load(2 * behind - 1));
                }
            }
            Expect.refused("128 of 7 cells", () -> Made.row(129), x -> x.load(255));
        });
        s.that("Throws IllegalArgumentException if code is not 0 to 255", "-1 and 256, 0 and 255; ahead of REFUSED", () -> {
            Expect.notArguments("load", Formwheel::load, -1, 256, LEAST, GREATEST);
            Expect.right("load", Formwheel::load, 0, 1, 255);
        });
    }
}
