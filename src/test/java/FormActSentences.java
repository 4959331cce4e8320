/** The sentences of promises 1 to 10: a new object, and the acts on the digits of forms. */
final class FormActSentences {
    private static final int LEAST = Integer.MIN_VALUE;
    private static final int GREATEST = Integer.MAX_VALUE;
    private static final String FULL = Made.run(0, 40);

    private FormActSentences() {
    }

    static void tell(Sentences s) {
        p01New(s);
        p02Set(s);
        p03Digit(s);
        p04Run(s);
        p05Copy(s);
        p06Swap(s);
        p07Shift(s);
        p08Turn(s);
        p09Slope(s);
        p10Add(s);
    }

    private static void p01New(Sentences s) {
        s.under("Promise 1");
        s.that("Creates six EMPTY FORMS", "the forms 0 to 5", () -> {
            for (int form = 0; form < 6; form++) {
                Expect.same("text of " + form, new Formwheel().text(form), "");
                Expect.same("degree of " + form, new Formwheel().degree(form), -1);
            }
            Expect.index("a seventh", Formwheel::new, x -> x.degree(6));
        });
        s.that("an empty ROLL", "none is there", () -> {
            Expect.same("how many", new Formwheel().house(3), 0);
            Expect.index("the first one", Formwheel::new, x -> x.rollText(0));
        });
        s.that("a SHIFT ROW with the TAPS of CODE 3", "and one cell with a 1", () -> {
            Expect.same("taps", new Formwheel().house(4), 3);
            Expect.same("cells", new Formwheel().rowText(), "1");
        });
        s.that("Creates", "one object beside another", () -> {
            Formwheel other = new Formwheel();
            Formwheel x = Made.full();
            x.knock();
            x.load(256 - 1);
            Expect.same("the other one", Look.lines(other), Look.lines(new Formwheel()));
        });
        s.that("Creates", "nothing is counted yet", () -> {
            for (int what : new int[] {0, 1, 2, 5}) {
                Expect.same("house(" + what + ")", new Formwheel().house(what), 0);
            }
        });
    }

    private static void p02Set(Sentences s) {
        s.under("Promise 2");
        s.that("A FORM becomes that of a CODE", "each place from 0 to 30", () -> {
            for (int place = 0; place <= 30; place++) {
                int code = (int) (1L << place);
                Expect.does("set", Formwheel::new, x -> x.set(0, code), -1, "form 0: " + place);
            }
        });
        s.that("A FORM becomes that of a CODE", "each form alone", () -> {
            int[] before = {5, 20, -1, 39, 0, 10};
            for (int form = 0; form < 6; form++) {
                int one = form;
                Expect.does("set", Made::busy, x -> x.set(one, 6), before[one], "form " + one + ": 2 1");
            }
        });
        s.that("A FORM becomes that of a CODE", "the codes 0 and 2147483647", () -> {
            Expect.does("none", Made::full, x -> x.set(5, 0), 39, "form 5: ");
            Expect.does("all up to 30", Made::full, x -> x.set(5, GREATEST), 39, "form 5: " + Made.run(0, 31));
        });
        s.that("Returns DEGREE of what it was", "none, 0, 30, 39", () -> {
            Expect.same("of an empty one", Made.forms("").set(0, 5), -1);
            Expect.same("of the unit", Made.forms("0").set(0, 5), 0);
            Expect.same("of degree 30", Made.of(GREATEST).set(0, 5), 30);
            Expect.same("of degree 39", Made.forms("39").set(0, 5), 39);
            Expect.same("of the same", Made.of(5).set(0, 5), 2);
        });
        s.that("Throws IndexOutOfBoundsException if form is not 0 to 5", "-1 and 6, 0 and 5", () ->
            Expect.formsOnly("set", (x, form) -> x.set(form, 1)));
        s.that("Throws IllegalArgumentException if code is below 0", "-1 and 0", () -> {
            Expect.notArguments("set", (x, code) -> x.set(0, code), -1, -2, LEAST);
            Expect.right("set", (x, code) -> x.set(0, code), 0, 1, GREATEST);
        });
        s.that("Throws IndexOutOfBoundsException", "ahead of the code", () ->
            Expect.notIndexes("set", (x, form) -> x.set(form, -1), -1, 6, LEAST, GREATEST));
    }

    private static void p03Digit(Sentences s) {
        s.under("Promise 3");
        s.that("0 it becomes 0", "a 0 and a 1", () -> {
            Expect.does("a 1", () -> Made.forms("39 5 0"), x -> x.digit(0, 5, 0), 1, "form 0: 39 0");
            Expect.does("a 0", () -> Made.forms("39 5 0"), x -> x.digit(0, 6, 0), 0);
        });
        s.that("1 it becomes 1", "a 0 and a 1", () -> {
            Expect.does("a 1", () -> Made.forms("39 5 0"), x -> x.digit(0, 5, 1), 0);
            Expect.does("a 0", () -> Made.forms("39 5 0"), x -> x.digit(0, 6, 1), 1, "form 0: 39 6 5 0");
        });
        s.that("2 it becomes the other one", "a 0 and a 1", () -> {
            Expect.does("a 1", () -> Made.forms("39 5 0"), x -> x.digit(0, 5, 2), 1, "form 0: 39 0");
            Expect.does("a 0", () -> Made.forms("39 5 0"), x -> x.digit(0, 6, 2), 1, "form 0: 39 6 5 0");
        });
        s.that("One digit is told", "each place of an empty and a full one", () -> {
            for (int place = 0; place < 40; place++) {
                int at = place;
                Expect.does("of an empty one", Formwheel::new, x -> x.digit(5, at, 1), 1, "form 5: " + at);
                Formwheel x = Made.full();
                Expect.same("of a full one", x.digit(5, at, 0), 1);
                for (int other = 0; other < 40; other++) {
                    Expect.same("place " + other, x.has(5, other), other != at);
                }
            }
        });
        s.that("One digit is told", "each form alone", () -> {
            for (int form = 0; form < 6; form++) {
                int one = form;
                Expect.does("digit", Formwheel::new, x -> x.digit(one, 39, 2), 1, "form " + one + ": 39");
            }
        });
        s.that("Returns 1 if it is another one then, otherwise 0", "all of three ways at once", () -> {
            Formwheel x = new Formwheel();
            int[] ways = {0, 1, 1, 2, 2, 2, 0, 0};
            int[] due = {0, 1, 0, 1, 1, 1, 0, 0};
            for (int k = 0; k < ways.length; k++) {
                Expect.same("call " + k, x.digit(0, 39, ways[k]), due[k]);
            }
        });
        s.that("Throws IndexOutOfBoundsException if form is not 0 to 5", "-1 and 6, 0 and 5", () ->
            Expect.formsOnly("digit", (x, form) -> x.digit(form, 0, 2)));
        s.that("or place is not 0 to 39", "-1 and 40, 0 and 39", () -> {
            Expect.notIndexes("digit", (x, place) -> x.digit(0, place, 1), -1, 40, 63, 64, LEAST, GREATEST);
            Expect.right("digit", (x, place) -> x.digit(0, place, 1), 0, 1, 31, 32, 38, 39);
        });
        s.that("Throws IllegalArgumentException if how is not 0 to 2", "-1 and 3, 0 and 2", () -> {
            Expect.notArguments("digit", (x, how) -> x.digit(0, 0, how), -1, 3, LEAST, GREATEST);
            Expect.right("digit", (x, how) -> x.digit(0, 0, how), 0, 1, 2);
        });
        s.that("Throws IndexOutOfBoundsException", "ahead of how", () -> {
            Expect.notIndexes("digit", (x, form) -> x.digit(form, 0, 3), -1, 6);
            Expect.notIndexes("digit", (x, place) -> x.digit(0, place, -1), -1, 40);
        });
    }

    private static void p04Run(Sentences s) {
        s.under("Promise 4");
        s.that("The digits at the places from one up to another one (without that) become the other ones",
            "each run of an empty one", () -> {
                for (int from = 0; from <= 40; from++) {
                    for (int to = from; to <= 40; to++) {
                        Formwheel x = new Formwheel();
                        Expect.same("run", x.run(3, from, to), to - from);
                        Expect.same(from + " to " + to, x.text(3), Made.run(from, to));
                    }
                }
            });
        s.that("(without that)", "the place behind stays", () -> {
            Expect.does("a 1", () -> Made.forms("7"), x -> x.run(0, 5, 7), 3, "form 0: 7 6 5");
            Expect.does("a 0", () -> Made.forms("6 5"), x -> x.run(0, 5, 7), 0, "form 0: ");
            Expect.does("up to the last but one", Made::full, x -> x.run(0, 0, 39), 1, "form 0: 39");
            Expect.does("the last one", Made::full, x -> x.run(0, 39, 40), 39, "form 0: " + Made.run(0, 39));
            Expect.does("the first one", Made::full, x -> x.run(0, 0, 1), 39, "form 0: " + Made.run(1, 40));
        });
        s.that("The digits at the places from one up to another one (without that)", "no place: nothing is other", () -> {
            for (int place = 0; place <= 40; place++) {
                int at = place;
                Expect.does("run of none", Made::busy, x -> x.run(3, at, at), 3);
            }
        });
        s.that("Returns how many ones the FORM has then", "none, one, all", () -> {
            Expect.same("all", new Formwheel().run(0, 0, 40), 40);
            Expect.same("none", Made.full().run(0, 0, 40), 0);
            Expect.same("ones and zeros change", Made.forms("3 1").run(0, 0, 5), 3);
        });
        s.that("Throws IndexOutOfBoundsException if form is not 0 to 5", "-1 and 6, 0 and 5", () ->
            Expect.formsOnly("run", (x, form) -> x.run(form, 0, 40)));
        s.that("if not 0 <= from", "-1 and 0", () -> {
            Expect.notArguments("run", (x, from) -> x.run(0, from, 40), -1, LEAST);
            Expect.notArguments("run of none", (x, from) -> x.run(0, from, from), -1, LEAST);
            Expect.right("run", (x, from) -> x.run(0, from, 40), 0, 40);
        });
        s.that("<= from <= to <=", "from is to, and is one above", () -> {
            Expect.notArguments("run", (x, to) -> x.run(0, to + 1, to), 0, 1, 38, 39);
            Expect.notArguments("run", (x, to) -> x.run(0, 0, to), -1, LEAST);
            Expect.notArguments("run", (x, from) -> x.run(0, from, 3), 4, 40, 41, GREATEST);
            Expect.right("run", (x, to) -> x.run(0, to, to), 0, 1, 39, 40);
        });
        s.that("<= to <= 40", "40 and 41", () -> {
            Expect.notArguments("run", (x, to) -> x.run(0, 0, to), 41, 64, GREATEST);
            Expect.notArguments("run of none", (x, to) -> x.run(0, to, to), 41, 64, GREATEST);
            Expect.right("run", (x, to) -> x.run(0, 0, to), 0, 1, 39, 40);
        });
        s.that("Throws IndexOutOfBoundsException", "ahead of the places", () -> {
            Expect.notIndexes("run", (x, form) -> x.run(form, 5, 4), -1, 6);
            Expect.notIndexes("run", (x, form) -> x.run(form, -1, 41), -1, 6);
        });
    }

    private static void p05Copy(Sentences s) {
        s.under("Promise 5");
        s.that("A FORM becomes as another one", "each with each", () -> {
            int[] degrees = {5, 20, -1, 39, 0, 10};
            for (int form = 0; form < 6; form++) {
                for (int into = 0; into < 6; into++) {
                    int one = form;
                    int other = into;
                    Expect.does("copy", Made::busy, x -> x.copy(one, other), degrees[one],
                        "form " + other + ": " + Made.busy().text(one));
                }
            }
        });
        s.that("which becomes as it (perhaps the same)", "nothing is other then", () -> {
            Expect.does("a full one", Made::full, x -> x.copy(5, 5), 39);
            Expect.does("an empty one", Formwheel::new, x -> x.copy(5, 5), -1);
        });
        s.that("A FORM becomes as another one", "each goes its own way then", () -> {
            Formwheel x = Made.forms("5 2 0");
            x.copy(0, 1);
            x.digit(0, 7, 1);
            Expect.same("the copy", x.text(1), "5 2 0");
            x.digit(1, 9, 1);
            Expect.same("what was taken", x.text(0), "7 5 2 0");
        });
        s.that("Returns its DEGREE", "none, 0, 39", () -> {
            Expect.same("of an empty one", Made.forms("", "5").copy(0, 1), -1);
            Expect.same("of the unit", Made.forms("0", "5").copy(0, 1), 0);
            Expect.same("of degree 39", Made.forms("39", "5").copy(0, 1), 39);
        });
        s.that("Throws IndexOutOfBoundsException if one is not 0 to 5", "that is taken", () ->
            Expect.formsOnly("copy", (x, form) -> x.copy(form, 5)));
        s.that("Throws IndexOutOfBoundsException if one is not 0 to 5", "that becomes", () -> {
            Expect.formsOnly("copy", (x, into) -> x.copy(5, into));
            Expect.notIndexes("both", (x, form) -> x.copy(form, form), -1, 6);
        });
    }

    private static void p06Swap(Sentences s) {
        s.under("Promise 6");
        s.that("Two FORMS change their places", "each with each", () -> {
            for (int form = 0; form < 6; form++) {
                for (int other = 0; other < 6; other++) {
                    int one = form;
                    int two = other;
                    Expect.does("swap", Made::busy, x -> x.swap(one, two), one == two ? 0 : 1,
                        "form " + two + ": " + Made.busy().text(one), "form " + one + ": " + Made.busy().text(two));
                }
            }
        });
        s.that("a FORM, or the same", "nothing is other then", () ->
            Expect.does("swap", Made::busy, x -> x.swap(3, 3), 0));
        s.that("Returns 1 if they are unlike, otherwise 0", "like ones, unlike at one place", () -> {
            Expect.does("two empty ones", Formwheel::new, x -> x.swap(0, 5), 0);
            Expect.does("two full ones", Made::full, x -> x.swap(0, 5), 0);
            Expect.does("unlike at 0", () -> Made.forms("39 0", "39"), x -> x.swap(0, 1), 1,
                "form 0: 39", "form 1: 39 0");
            Expect.does("unlike at 39", () -> Made.forms("39 0", "0"), x -> x.swap(0, 1), 1,
                "form 0: 0", "form 1: 39 0");
        });
        s.that("Throws IndexOutOfBoundsException if one is not 0 to 5", "the first one", () ->
            Expect.formsOnly("swap", (x, form) -> x.swap(form, 5)));
        s.that("Throws IndexOutOfBoundsException if one is not 0 to 5", "the other one", () -> {
            Expect.formsOnly("swap", (x, other) -> x.swap(5, other));
            Expect.notIndexes("both", (x, form) -> x.swap(form, form), -1, 6);
        });
    }

    private static void p07Shift(Sentences s) {
        s.under("Promise 7");
        s.that("Each digit goes up by so many places (below 0: down; what comes below the place 0 is gone; 0 comes where"
            + " none comes)", "each place by each number", () -> {
                for (int place = 0; place < 40; place++) {
                    for (int by = -39; by <= 39; by++) {
                        shiftOfOne(place, by);
                    }
                }
            });
        s.that("what comes below the place 0 is gone", "some stay", () -> {
            Expect.does("by -1", () -> Made.forms("39 38 1 0"), x -> x.shift(0, -1), 38, "form 0: 38 37 0");
            Expect.does("by -38", Made::full, x -> x.shift(0, -38), 1, "form 0: 1 0");
            Expect.does("by -39", Made::full, x -> x.shift(0, -39), 0, "form 0: 0");
            Expect.does("all of them", () -> Made.forms(Made.run(0, 39)), x -> x.shift(0, -39), -1, "form 0: ");
        });
        s.that("0 comes where none comes", "below and above", () -> {
            Expect.does("above", Made::full, x -> x.shift(0, -1), 38, "form 0: " + Made.run(0, 39));
            Expect.does("below", () -> Made.forms(Made.run(0, 39)), x -> x.shift(0, 1), 39, "form 0: " + Made.run(1, 40));
            Expect.does("below, by 39", () -> Made.forms("0"), x -> x.shift(0, 39), 39, "form 0: 39");
        });
        s.that("Each digit goes up by so many places", "by 0: nothing is other", () -> {
            Expect.does("a full one", Made::full, x -> x.shift(5, 0), 39);
            Expect.does("an empty one", Formwheel::new, x -> x.shift(5, 0), -1);
        });
        s.that("Returns its DEGREE then", "of an empty one, whatever it is shifted by", () -> {
            for (int by = -39; by <= 39; by++) {
                int many = by;
                Expect.does("shift by " + by, Formwheel::new, x -> x.shift(2, many), -1);
            }
        });
        s.that("REFUSED if that would be above 39", "39 stands, 40 and 78 do not", () -> {
            for (int degree = 0; degree < 40; degree++) {
                String text = degree == 0 ? "0" : degree + " 0";
                int most = 39 - degree;
                String up = degree == 0 ? "39" : "39 " + most;
                Expect.does("up to 39", () -> Made.forms(text), x -> x.shift(0, most), 39, "form 0: " + up);
                if (most < 39) {
                    Expect.refused("up to 40", () -> Made.forms(text), x -> x.shift(0, most + 1));
                    Expect.refused("by 39", () -> Made.forms(text), x -> x.shift(0, 39));
                }
            }
        });
        s.that("Throws IndexOutOfBoundsException if form is not 0 to 5", "-1 and 6, 0 and 5", () ->
            Expect.formsOnly("shift", (x, form) -> x.shift(form, -1)));
        s.that("Throws IllegalArgumentException if by is not -39 to 39", "-40 and 40, -39 and 39", () -> {
            Expect.notArguments("shift", (x, by) -> x.shift(0, by), -40, 40, -64, 64, LEAST, GREATEST);
            Expect.right("shift", (x, by) -> x.shift(0, by), -39, 0, 39);
        });
        s.that("Throws IndexOutOfBoundsException", "ahead of by", () ->
            Expect.notIndexes("shift", (x, form) -> x.shift(form, 40), -1, 6));
        s.that("Throws IllegalArgumentException if by is not -39 to 39", "ahead of REFUSED", () ->
            Expect.argument("shift", Made::full, x -> x.shift(0, 40)));
    }

    private static void shiftOfOne(int place, int by) {
        int to = place + by;
        String text = String.valueOf(place);
        if (to > 39) {
            Expect.refused(place + " by " + by, () -> Made.forms(text), x -> x.shift(0, by));
        } else {
            Expect.does(place + " by " + by, () -> Made.forms(text), x -> x.shift(0, by), to < 0 ? -1 : to,
                "form 0: " + (to < 0 ? "" : String.valueOf(to)));
        }
    }

    private static void p08Turn(Sentences s) {
        s.under("Promise 8");
        s.that("A FORM becomes TURNED", "one place alone becomes the unit", () -> {
            for (int place = 0; place < 40; place++) {
                String text = String.valueOf(place);
                Expect.does("turn of " + place, () -> Made.forms(text), x -> x.turn(0), 0, "form 0: 0");
            }
        });
        s.that("A FORM becomes TURNED", "two places", () -> {
            for (int place = 1; place < 39; place++) {
                String text = "39 " + place + " 0";
                String turned = "39 " + (39 - place) + " 0";
                Expect.does("with a last digit", () -> Made.forms(text), x -> x.turn(0), 39, "form 0: " + turned);
            }
            Expect.does("without one", () -> Made.forms("39 38 5"), x -> x.turn(0), 34, "form 0: 34 1 0");
        });
        s.that("A FORM becomes TURNED", "the empty and the full one stay", () -> {
            Expect.does("the empty one", Formwheel::new, x -> x.turn(0), -1);
            Expect.does("the full one", Made::full, x -> x.turn(0), 39);
            Expect.does("the unit", () -> Made.of(1), x -> x.turn(0), 0);
        });
        s.that("Returns its DEGREE then", "less by the lowest place", () -> {
            Expect.same("of 39 and 38", Made.forms("39 38").turn(0), 1);
            Expect.same("of 39 and 1", Made.forms("39 1").turn(0), 38);
            Expect.same("of 39 and 0", Made.forms("39 0").turn(0), 39);
        });
        s.that("Throws IndexOutOfBoundsException if form is not 0 to 5", "-1 and 6, 0 and 5", () ->
            Expect.formsOnly("turn", Formwheel::turn));
    }

    private static void p09Slope(Sentences s) {
        s.under("Promise 9");
        s.that("A FORM becomes its SLOPE", "all places", () -> {
            Expect.does("of a full one", Made::full, x -> x.slope(5), 38,
                "form 5: 38 36 34 32 30 28 26 24 22 20 18 16 14 12 10 8 6 4 2 0");
            Expect.does("of 39 and 38", () -> Made.forms("39 38"), x -> x.slope(0), 38, "form 0: 38");
            Expect.does("of 1 and 0", () -> Made.forms("1 0"), x -> x.slope(0), 0, "form 0: 0");
        });
        s.that("Returns its DEGREE then", "none is left", () -> {
            Expect.does("of an empty one", Formwheel::new, x -> x.slope(0), -1);
            Expect.does("of a square", () -> Made.forms("38 20 2 0"), x -> x.slope(0), -1, "form 0: ");
            Expect.does("of the unit", () -> Made.forms("0"), x -> x.slope(0), -1, "form 0: ");
            Expect.does("of x", () -> Made.forms("1"), x -> x.slope(0), 0, "form 0: 0");
        });
        s.that("Throws IndexOutOfBoundsException if form is not 0 to 5", "-1 and 6, 0 and 5", () ->
            Expect.formsOnly("slope", Formwheel::slope));
    }

    private static void p10Add(Sentences s) {
        s.under("Promise 10");
        s.that("A FORM becomes the SUM of two", "each with each into each", () ->
            Triples.each("add", (x, given) -> x.add(given[0], given[1], given[2]), PlainForm::sum));
        s.that("A FORM becomes the SUM of two", "of one and itself", () -> {
            Expect.does("into another", Made::full, x -> x.add(0, 0, 1), -1, "form 1: ");
            Expect.does("into itself", Made::full, x -> x.add(0, 0, 0), -1, "form 0: ");
            Expect.does("of an empty one", Formwheel::new, x -> x.add(0, 0, 0), -1);
        });
        s.that("which becomes it (perhaps one of both; likewise below)", "the first one, the other one", () -> {
            Expect.does("the first one", () -> Made.forms("39 1", "39 0"), x -> x.add(0, 1, 0), 1, "form 0: 1 0");
            Expect.does("the other one", () -> Made.forms("39 1", "39 0"), x -> x.add(0, 1, 1), 1, "form 1: 1 0");
        });
        s.that("Returns its DEGREE then", "less than both", () -> {
            Expect.same("like at the top", Made.forms("39 7", "39").add(0, 1, 2), 7);
            Expect.same("unlike at the top", Made.forms("39 7", "7").add(0, 1, 2), 39);
            Expect.same("with an empty one", Made.forms("39 7").add(0, 1, 2), 39);
        });
        s.that("Throws IndexOutOfBoundsException if one is not 0 to 5", "-1 and 6, 0 and 5", () ->
            Expect.formsOnly("add", (x, one) -> x.add(one, 5, 5)));
        s.that("other is not", "-1 and 6, 0 and 5", () ->
            Expect.formsOnly("add", (x, other) -> x.add(5, other, 5)));
        s.that("or into is not", "-1 and 6, 0 and 5", () ->
            Expect.formsOnly("add", (x, into) -> x.add(5, 5, into)));
    }
}
