import java.util.LinkedHashMap;
import java.util.List;
import java.util.Map;
import java.util.function.Consumer;
import java.util.function.Function;
import java.util.function.Supplier;

/** The sentences of "Description", of its sections 1 to 4, and of what always holds, that name an edge. */
final class DescriptionSentences {
    private static final String FULL = Made.run(0, 40);

    private DescriptionSentences() {
    }

    static void tell(Sentences s) {
        s.under("Description");
        answers(s);
        exceptions(s);
        forms(s);
        productsAndRests(s);
        primesAndRoll(s);
        wheels(s);
        seals(s);
        whatAlwaysHolds(s);
    }

    // ==== NONE, REFUSED, what is counted

    private static void answers(Sentences s) {
        s.that("NONE is -1", "wherever it is answered", () -> {
            Expect.asked("degree", Formwheel::new, x -> x.degree(5), -1);
            Expect.asked("lowest", Formwheel::new, x -> x.lowest(5), -1);
            Expect.asked("prime", Formwheel::new, x -> x.prime(1, 2), -1);
            Expect.same("set", new Formwheel().set(5, 1), -1);
            Expect.same("strike", Made.roll(0).strike(0), -1);
        });
        s.that("REFUSED is -9: an act tells it where that is told there; nothing changes then, but that it is counted"
            + " (house() by 1)", "each act that can be refused", () -> refusedActs().forEach(
                (name, call) -> Expect.refused(name, DescriptionSentences::refusing, call)));
        s.that("nothing changes then, but that it is counted (house() by 1)", "again and again", () -> {
            Formwheel x = refusing();
            for (int times = 1; times <= 300; times++) {
                x.square(3, 3);
            }
            Expect.same("refusals", x.house(1), 300);
            Expect.same("acts", x.house(0), refusing().house(0));
        });
        s.that("Where a method that is asked tells -9, it is not counted", "each one that can tell it", () -> {
            Expect.asked("code", DescriptionSentences::refusing, x -> x.code(3), -9);
            Expect.asked("check", DescriptionSentences::refusing, x -> x.check(3, 3), -9);
            Expect.asked("check by none", DescriptionSentences::refusing, x -> x.check(0, 2), -9);
            for (int by = 0; by < 3; by++) {
                int how = by;
                Expect.asked("period", DescriptionSentences::refusing, x -> x.period(3, how), -9);
            }
            Expect.asked("isPrime by trying", DescriptionSentences::refusing, x -> x.isPrime(3, 0), -9);
            Expect.asked("isPrime by rising", DescriptionSentences::refusing, x -> x.isPrime(3, 1), -9);
        });
        s.that("Acts are the methods from set() to load(), and no others; each call that neither throws nor tells REFUSED"
            + " is one that is done (house() by 0), also if nothing is other then", "nothing is other then",
            () -> idleActs().forEach((name, call) -> {
                Formwheel x = idle();
                Formwheel before = idle();
                Expect.so(name + " is not refused", call.apply(x) != -9);
                Expect.same(name, Look.lines(x), Look.with(Look.lines(before), "acts: " + (before.house(0) + 1)));
            }));
        s.that("also if nothing is other then", "of the roll, none or as it is", () -> {
            Expect.does("clear", Formwheel::new, Formwheel::clear, 0);
            Expect.does("sort", Formwheel::new, x -> x.sort(true), 0);
            Expect.does("turnAll", Formwheel::new, Formwheel::turnAll, 0);
            Expect.does("product", () -> Made.of(1), x -> x.product(0), 0);
            Expect.does("factor", () -> Made.roll(37), x -> x.factor(0, 0), 1);
            Expect.does("factor by degrees", () -> Made.roll(37), x -> x.factor(0, 1), 1);
        });
        s.that("Acts are the methods from set() to load(), and no others", "what is asked is none", () ->
            askedCalls().forEach((name, call) -> {
                for (Supplier<Formwheel> made : Made.unlike()) {
                    Formwheel x = made.get();
                    String before = Look.at(x);
                    call.accept(x);
                    Expect.same(name, Look.at(x), before);
                }
            }));
        s.that("knock() is none", "neither an act nor refused", () -> {
            Formwheel x = Made.busy();
            x.knock();
            Expect.same("what is there", Look.lines(x), Look.with(Look.lines(Made.busy()), "knocks: 3"));
        });
    }

    /** Form 0 is a wheel, 1 has the degree 20, 2 is empty, 3 full, 4 the unit, 5 has the degree 21; the roll is full. */
    private static Formwheel refusing() {
        Formwheel x = Made.forms("5 2 0", "20 0", "", FULL, "0", "21 0");
        for (int k = 0; k < 12; k++) {
            x.enroll(1);
        }
        return x;
    }

    private static Map<String, Function<Formwheel, Integer>> refusedActs() {
        Map<String, Function<Formwheel, Integer>> calls = new LinkedHashMap<>();
        calls.put("shift", x -> x.shift(3, 1));
        calls.put("multiply", x -> x.multiply(1, 1, 0));
        calls.put("multiply into the same", x -> x.multiply(3, 3, 3));
        calls.put("square", x -> x.square(1, 0));
        calls.put("square into the same", x -> x.square(1, 1));
        calls.put("divide", x -> x.divide(0, 2, 0));
        calls.put("remain", x -> x.remain(0, 2, 2));
        calls.put("power by none", x -> x.power(0, 1, 2, 0));
        calls.put("power by degree 21", x -> x.power(0, 1, 5, 5));
        calls.put("seal by the unit", x -> x.seal(0, 4, 0));
        calls.put("seal of degrees 40", x -> x.seal(1, 1, 1));
        calls.put("burst", x -> x.burst(0, 39, 2));
        calls.put("factor of the unit", x -> x.factor(4, 0));
        calls.put("factor of degree 20", x -> x.factor(1, 1));
        calls.put("enroll", x -> x.enroll(0));
        calls.put("product", x -> x.product(0));
        calls.put("start", x -> x.start(1));
        calls.put("load", x -> x.load(2));
        return calls;
    }

    /** One on which each of the acts below changes nothing. */
    private static Formwheel idle() {
        Formwheel x = Made.forms("0", "", "1 0", "2 0", "2 1", FULL);
        x.enroll(1);
        x.enroll(0);
        x.enroll(2);
        return x;
    }

    private static Map<String, Function<Formwheel, Integer>> idleActs() {
        Map<String, Function<Formwheel, Integer>> calls = new LinkedHashMap<>();
        calls.put("set", x -> x.set(2, 3));
        calls.put("digit", x -> x.digit(2, 0, 1));
        calls.put("run", x -> x.run(2, 7, 7));
        calls.put("copy", x -> x.copy(2, 2));
        calls.put("swap", x -> x.swap(2, 2));
        calls.put("shift", x -> x.shift(5, 0));
        calls.put("turn", x -> x.turn(5));
        calls.put("slope", x -> x.slope(1));
        calls.put("add", x -> x.add(5, 1, 5));
        calls.put("multiply", x -> x.multiply(5, 0, 5));
        calls.put("square", x -> x.square(0, 0));
        calls.put("divide", x -> x.divide(5, 0, 5));
        calls.put("remain", x -> x.remain(2, 5, 2));
        calls.put("common", x -> x.common(5, 5, 5));
        calls.put("multipliers", x -> x.multipliers(3, 1, 0, 1));
        calls.put("power", x -> x.power(2, 1, 4, 2));
        calls.put("allPrimes", x -> x.allPrimes(1, 4));
        calls.put("seal", x -> x.seal(1, 2, 1));
        calls.put("burst", x -> x.burst(5, 39, 0));
        calls.put("sort", x -> x.sort(false));
        calls.put("turnAll", x -> x.turnAll());
        calls.put("take", x -> x.take(2, 2));
        calls.put("start", x -> x.start(2));
        calls.put("step", x -> x.step(255));
        calls.put("load", x -> x.load(1));
        return calls;
    }

    private static Map<String, Consumer<Formwheel>> askedCalls() {
        Map<String, Consumer<Formwheel>> calls = new LinkedHashMap<>();
        calls.put("degree", x -> x.degree(0));
        calls.put("code", x -> x.code(0));
        calls.put("has", x -> x.has(0, 0));
        calls.put("ones", x -> x.ones(0));
        calls.put("lowest", x -> x.lowest(0));
        calls.put("text", x -> x.text(0));
        calls.put("order", x -> x.order(0, 1));
        calls.put("divides", x -> x.divides(0, 1));
        calls.put("check", x -> x.check(1, 0));
        calls.put("isPrime by trying", x -> x.isPrime(0, 0));
        calls.put("isPrime by rising", x -> x.isPrime(0, 1));
        calls.put("primes by the sum", x -> x.primes(10, 0));
        calls.put("primes by counting", x -> x.primes(6, 1));
        calls.put("prime", x -> x.prime(6, 9));
        calls.put("period by multiplying", x -> x.period(0, 0));
        calls.put("period by steps", x -> x.period(0, 1));
        calls.put("period by factors", x -> x.period(0, 2));
        calls.put("rowText", Formwheel::rowText);
        calls.put("again", Formwheel::again);
        calls.put("house", x -> x.house(5));
        calls.put("isSound", Formwheel::isSound);
        calls.put("digest", Formwheel::digest);
        return calls;
    }

    // ==== exceptions

    private static void exceptions(Sentences s) {
        s.that("A method that throws an exception changes nothing and counts nothing", "again and again", () -> {
            Formwheel x = Made.full();
            String before = Look.at(x);
            for (int times = 0; times < 300; times++) {
                throwOnce(x, times % 2 == 0);
            }
            Expect.same("what is there", Look.at(x), before);
        });
        s.that("If several exceptions apply, the one that is named first is thrown", "a form and a number", () -> {
            for (Supplier<Formwheel> made : Made.unlike()) {
                bothWrong().forEach((name, call) -> Expect.index(name, made, call));
            }
        });
        s.that("exceptions go ahead of REFUSED", "what would be refused, too", () ->
            wrongAndRefused().forEach((name, call) -> {
                Expect.index(name + " with a wrong form", DescriptionSentences::refusing, call.get(0));
                if (call.size() > 1) {
                    Expect.argument(name + " with a wrong number", DescriptionSentences::refusing, call.get(1));
                }
            }));
        s.that("exceptions go ahead of REFUSED", "load alone has no form", () ->
            Expect.argument("load", DescriptionSentences::refusing, x -> x.load(256)));
        s.that("\"If one is not 0 to 5\" speaks of each FORM that is named there", "copy and swap", () -> {
            Expect.formsOnly("copy", (x, form) -> x.copy(form, 0));
            Expect.formsOnly("copy into", (x, form) -> x.copy(0, form));
            Expect.formsOnly("swap", (x, form) -> x.swap(form, 0));
            Expect.formsOnly("swap with", (x, form) -> x.swap(0, form));
        });
    }

    private static void throwOnce(Formwheel x, boolean isIndex) {
        try {
            if (isIndex) {
                x.set(6, 0);
            } else {
                x.set(0, -1);
            }
            Expect.so("it throws", false);
        } catch (IndexOutOfBoundsException e) {
            Expect.so("the index throws", isIndex);
        } catch (IllegalArgumentException e) {
            Expect.so("the code throws", !isIndex);
        }
    }

    private static Map<String, Consumer<Formwheel>> bothWrong() {
        Map<String, Consumer<Formwheel>> calls = new LinkedHashMap<>();
        calls.put("set", x -> x.set(6, -1));
        calls.put("digit by the form", x -> x.digit(-1, 0, 3));
        calls.put("digit by the place", x -> x.digit(0, 40, 3));
        calls.put("digit by both", x -> x.digit(6, -1, -1));
        calls.put("run", x -> x.run(6, 5, 4));
        calls.put("shift", x -> x.shift(-1, 40));
        calls.put("multipliers by the first", x -> x.multipliers(6, 0, 1, 1));
        calls.put("multipliers by the second", x -> x.multipliers(0, 6, 1, 1));
        calls.put("multipliers by both that become", x -> x.multipliers(0, 1, 6, 6));
        calls.put("multipliers by both below", x -> x.multipliers(0, 1, -1, -1));
        calls.put("power by the form", x -> x.power(6, 256, 0, 0));
        calls.put("power by the divisor", x -> x.power(0, -1, 6, 0));
        calls.put("power by the last", x -> x.power(0, 256, 0, -1));
        calls.put("allPrimes", x -> x.allPrimes(0, 6));
        calls.put("burst by the form", x -> x.burst(6, 0, 4096));
        calls.put("burst by the place", x -> x.burst(0, 40, -1));
        calls.put("factor", x -> x.factor(6, 2));
        calls.put("isPrime", x -> x.isPrime(-1, 2));
        calls.put("period", x -> x.period(6, 3));
        return calls;
    }

    /** Of each act that would be refused: with a wrong form, and with a wrong number, if it has one. */
    private static Map<String, List<Consumer<Formwheel>>> wrongAndRefused() {
        Map<String, List<Consumer<Formwheel>>> calls = new LinkedHashMap<>();
        calls.put("shift", List.of(x -> x.shift(6, 39), x -> x.shift(3, 40)));
        calls.put("multiply", List.of(x -> x.multiply(3, 3, 6)));
        calls.put("square", List.of(x -> x.square(3, 6)));
        calls.put("divide", List.of(x -> x.divide(3, 2, 6)));
        calls.put("remain", List.of(x -> x.remain(6, 2, 0)));
        calls.put("power by none", List.of(x -> x.power(0, 1, 2, 6), x -> x.power(0, 256, 2, 0)));
        calls.put("power by 21", List.of(x -> x.power(6, 1, 5, 0), x -> x.power(0, -1, 5, 0)));
        calls.put("seal by none", List.of(x -> x.seal(0, 2, 6)));
        calls.put("seal of 78", List.of(x -> x.seal(3, 3, -1)));
        calls.put("burst", List.of(x -> x.burst(6, 39, 4095), x -> x.burst(0, 39, 4096)));
        calls.put("burst at 40", List.of(x -> x.burst(0, 40, 4095)));
        calls.put("factor", List.of(x -> x.factor(6, 0), x -> x.factor(3, 2)));
        calls.put("enroll", List.of(x -> x.enroll(6)));
        calls.put("product", List.of(x -> x.product(6)));
        calls.put("start", List.of(x -> x.start(6)));
        return calls;
    }

    // ==== 1. Forms

    private static void forms(Sentences s) {
        s.that("A FORM has digits 0 or 1 at the places 0 to 39", "each place alone", () -> {
            for (int place = 0; place < 40; place++) {
                Formwheel x = new Formwheel();
                x.digit(5, place, 1);
                for (int other = 0; other < 40; other++) {
                    Expect.same("has " + other, x.has(5, other), other == place);
                }
            }
        });
        s.that("A FORM has digits 0 or 1 at the places 0 to 39", "all at once", () -> {
            Expect.same("all", Made.full().text(5), FULL);
            Expect.same("how many", Made.full().ones(5), 40);
        });
        s.that("DEGREE: the greatest place with a 1", "each place", () -> {
            for (int place = 0; place < 40; place++) {
                Formwheel x = new Formwheel();
                x.digit(0, place, 1);
                x.run(1, 0, place + 1);
                Expect.same("of one place", x.degree(0), place);
                Expect.same("of all up to it", x.degree(1), place);
            }
        });
        s.that("of the EMPTY one, which has none, NONE", "a new one and one that became so", () -> {
            Expect.same("a new one", new Formwheel().degree(0), -1);
            Formwheel x = Made.full();
            x.run(0, 0, 40);
            Expect.same("one that became so", x.degree(0), -1);
        });
        s.that("CODE: the sum of 2^k over all places k with a 1", "the places 0 to 30, and more of them", () -> {
            for (int place = 0; place <= 30; place++) {
                Formwheel x = new Formwheel();
                x.digit(0, place, 1);
                x.run(1, 0, place + 1);
                Expect.same("of one", x.code(0), (int) (1L << place));
                Expect.same("of all up to it", x.code(1), (int) ((2L << place) - 1));
            }
        });
        s.that("The UNIT has a 1 at the place 0 alone, X at the place 1 alone", "by their codes", () -> {
            Expect.same("the unit", Made.of(1).text(0), "0");
            Expect.same("x", Made.of(2).text(0), "1");
        });
        s.that("There are FORMS 0 to 5, all EMPTY at first", "six, and no seventh", () -> {
            Expect.formsOnly("degree", Formwheel::degree);
            for (int form = 0; form < 6; form++) {
                Expect.same("text", new Formwheel().text(form), "");
            }
        });
        s.that("One FORM is lesser than another one, if it has a 0 at the greatest place at which both are unlike",
            "each place, with all ones below it", () -> {
                for (int place = 0; place < 40; place++) {
                    Formwheel x = new Formwheel();
                    x.run(0, 0, place);
                    x.digit(1, place, 1);
                    Expect.same("the first one", x.order(0, 1), -1);
                    Expect.same("the other one", x.order(1, 0), 1);
                    x.run(0, place + 1, 40);
                    x.run(1, place + 1, 40);
                    Expect.same("with like ones above", x.order(0, 1), -1);
                }
            });
    }

    private static void productsAndRests(Sentences s) {
        s.that("SUM of two: a 1 at each place where just one of both has a 1", "each place, none goes to the next", () -> {
            for (int place = 0; place < 40; place++) {
                String text = String.valueOf(place);
                Expect.does("1 and 1", () -> Made.forms(text, text, "7"), x -> x.add(0, 1, 2), -1, "form 2: ");
                Expect.does("1 and 0", () -> Made.forms(text), x -> x.add(0, 1, 2), place, "form 2: " + text);
                Expect.does("0 and 1", () -> Made.forms(text), x -> x.add(1, 0, 2), place, "form 2: " + text);
            }
        });
        s.that("there is none, if the DEGREES of both (neither EMPTY) are together above 39", "all degrees", () -> {
            for (int one = 0; one < 40; one++) {
                for (int other = 0; other < 40; other++) {
                    String first = String.valueOf(one);
                    String second = String.valueOf(other);
                    Formwheel x = Made.forms(first, second);
                    int together = one + other;
                    Expect.same(first + " and " + second, x.multiply(0, 1, 2), together > 39 ? -9 : together);
                    Expect.same("what it is", x.text(2), together > 39 ? "" : String.valueOf(together));
                }
            }
        });
        s.that("(neither EMPTY)", "an empty one with each degree", () -> {
            for (int degree = 0; degree < 40; degree++) {
                Formwheel x = Made.forms(String.valueOf(degree), "", "3");
                Expect.same("behind it", x.multiply(0, 1, 2), -1);
                Expect.same("ahead of it", x.multiply(1, 0, 2), -1);
                Expect.same("refusals", x.house(1), 0);
            }
        });
        s.that("PRODUCT of two: a 1 at each place p at which the number of pairs of places i of the one and j of the"
            + " other, both with a 1 and together p, is odd", "1 to 20 pairs at a place", () -> {
                for (int many = 1; many <= 20; many++) {
                    Formwheel x = new Formwheel();
                    x.run(0, 0, many);
                    x.run(1, 0, many);
                    x.multiply(0, 1, 2);
                    for (int place = 0; place < 40; place++) {
                        int pairs = many - Math.abs(many - 1 - place);
                        Expect.same("place " + place, x.has(2, place), pairs > 0 && pairs % 2 == 1);
                    }
                }
            });
        s.that("so a 1 at the place 2 * k for each 1 at the place k", "each place, and all of them", () -> {
            for (int place = 0; place < 20; place++) {
                String text = String.valueOf(place);
                String twice = String.valueOf(2 * place);
                Expect.does("of one", () -> Made.forms(text), x -> x.square(0, 1), 2 * place, "form 1: " + twice);
            }
            Formwheel x = Made.forms(Made.run(0, 20));
            x.square(0, 0);
            for (int place = 0; place < 40; place++) {
                Expect.same("place " + place, x.has(0, place), place % 2 == 0);
            }
        });
        s.that("the DEGREE of the REST is below that of the divisor (the EMPTY one's is below all)", "all degrees", () -> {
            for (int degree = 0; degree < 40; degree++) {
                Formwheel x = new Formwheel();
                x.run(0, 0, 40);
                x.run(1, 0, degree + 1);
                x.remain(0, 1, 2);
                Expect.so("by degree " + degree, x.degree(2) < degree);
            }
            Expect.same("by the unit", Made.forms(FULL, "0").remain(0, 1, 2), -1);
        });
        s.that("the FORM is the SUM of the PRODUCT of QUOTIENT and divisor, and of the REST", "all degrees", () -> {
            for (int one = 0; one < 40; one++) {
                for (int by = 0; by < 40; by++) {
                    Formwheel x = new Formwheel();
                    x.run(0, 0, one + 1);
                    x.digit(1, by, 1);
                    x.digit(1, by / 2, 1);
                    Expect.same("quotient", x.divide(0, 1, 2), one < by ? -1 : one - by);
                    x.remain(0, 1, 3);
                    x.multiply(2, 1, 4);
                    x.add(4, 3, 4);
                    Expect.same(one + " by " + by, x.order(4, 0), 0);
                }
            }
        });
        s.that("A FORM divides another one, if the REST of that by it is EMPTY (the EMPTY one divides itself alone)",
            "the empty one on either side", () -> {
                for (int degree = 0; degree < 40; degree++) {
                    Formwheel x = Made.forms(String.valueOf(degree));
                    Expect.same("the empty one", x.divides(1, 0), false);
                    Expect.same("another one", x.divides(0, 1), true);
                }
                Expect.same("itself", new Formwheel().divides(0, 1), true);
            });
        s.that("if both are EMPTY, the EMPTY one", "and if one of both is", () -> {
            Expect.does("both", () -> Made.forms("", "", "3"), x -> x.common(0, 1, 2), -1, "form 2: ");
            Expect.does("one", () -> Made.forms(FULL), x -> x.common(0, 1, 2), 39, "form 2: " + FULL);
            Expect.does("the other", () -> Made.forms("", FULL), x -> x.common(0, 1, 2), 39, "form 2: " + FULL);
        });
        s.that("begin with the rows (first, UNIT, EMPTY) and (second, EMPTY, UNIT); as long as the second row does not"
            + " begin with an EMPTY one", "an empty second one, first one, both", () -> {
                Expect.does("the second", () -> Made.forms("5 2 0", "", "7", "7"), x -> x.multipliers(0, 1, 2, 3), 5,
                    "form 2: 0", "form 3: ");
                Expect.does("the first", () -> Made.forms("", "5 2 0", "7", "7"), x -> x.multipliers(0, 1, 2, 3), 5,
                    "form 2: ", "form 3: 0");
                Expect.does("both", () -> Made.forms("", "", "7", "7"), x -> x.multipliers(0, 1, 2, 3), -1,
                    "form 2: 0", "form 3: ");
            });
        s.that("TURNED: the digits at the places 0 to DEGREE in the opposite sequence", "each degree", () -> {
            for (int degree = 1; degree < 40; degree++) {
                String text = degree == 1 ? "1 0" : degree + " 1 0";
                String turned = degree == 1 ? "1 0" : degree + " " + (degree - 1) + " 0";
                Expect.does("turn", () -> Made.forms(text), x -> x.turn(0), degree,
                    "form 0: " + (degree == 2 ? "2 1 0" : turned));
            }
        });
        s.that("SLOPE: a 1 at each even place k, if the FORM has a 1 at k + 1; no other ones", "each place", () -> {
            for (int place = 0; place < 40; place++) {
                String text = String.valueOf(place);
                boolean isOdd = place % 2 == 1;
                Expect.does("slope of " + place, () -> Made.forms(text), x -> x.slope(0), isOdd ? place - 1 : -1,
                    "form 0: " + (isOdd ? String.valueOf(place - 1) : ""));
            }
        });
        s.that("and a PRODUCT of many may go beyond the place 39, where just a REST of them, or what they have in common"
            + " with a FORM, is asked for", "39 times 255 places, and x risen 10 times", () -> {
                Expect.does("a product", () -> Made.forms("39", "20 3 0"), x -> x.power(0, 255, 1, 2),
                    PlainForm.degree(PlainForm.divided(PlainForm.ofPlace(39 * 255),
                        PlainForm.ofCode(1 << 20 | 9))[1]),
                    "form 2: " + PlainForm.text(PlainForm.divided(PlainForm.ofPlace(39 * 255),
                        PlainForm.ofCode(1 << 20 | 9))[1]));
                Expect.same("a prime of degree 10 by rising", Made.of(1033).isPrime(0, 1), 1);
                Expect.same("none of degree 10 by rising", Made.of(1025).isPrime(0, 1), 0);
            });
    }

    // ==== 2. Primes, factors, the roll

    private static void primesAndRoll(Sentences s) {
        s.that("A PRIME is a FORM of DEGREE 1 or more", "the degrees none, 0 and 1", () -> {
            for (int by = 0; by < 2; by++) {
                Expect.same("the empty one", Made.of(0).isPrime(0, by), 0);
                Expect.same("the unit", Made.of(1).isPrime(0, by), 0);
                Expect.same("x", Made.of(2).isPrime(0, by), 1);
                Expect.same("x and the unit", Made.of(3).isPrime(0, by), 1);
            }
        });
        s.that("PRIMES whose PRODUCT it is (each as often as it is needed)", "1 to 10 times", () -> {
            for (int many = 1; many <= 10; many++) {
                for (int by = 0; by < 2; by++) {
                    Formwheel x = Made.of(1 << many);
                    Expect.same("x, " + many + " times", x.factor(0, by), many);
                    Expect.same("the roll", Look.rollOf(x), "[1]".repeat(many));
                }
            }
        });
        s.that("as long as what is left has a DEGREE above 0", "a factor as great as what is left", () -> {
            for (int by = 0; by < 2; by++) {
                Expect.same("of a prime of degree 10", Made.of(1033).factor(0, by), 1);
                Expect.same("a square of a degree 5", factored("10 4 0", by), "[5 2 0][5 2 0]");
            }
        });
        s.that("what it and the SUM of X RISEN d times and X have in common is the PRODUCT of all unlike PRIMES of DEGREE"
            + " d in it", "all primes of a degree at once", () -> {
                Expect.same("of degree 1", factored("2 1", 1), "[1 0][1]");
                Expect.same("of degree 3", factored("6 5 4 3 2 1 0", 1), "[3 2 0][3 1 0]");
                Expect.same("of degrees 1 and 3", factored("8 1", 1), "[3 2 0][3 1 0][1 0][1]");
            });
        s.that("how many PRIMES there are of a DEGREE tells the sum over divisors as counting does", "1 to 6", () -> {
            for (int n = 1; n <= 6; n++) {
                Formwheel x = new Formwheel();
                Expect.same("degree " + n, x.primes(n, 0), x.primes(n, 1));
            }
        });
        s.that("The ROLL is a row of at most 12 FORMS, numbered from 0; none at first", "none, one, 12, and no 13th", () -> {
            Formwheel x = new Formwheel();
            Expect.same("at first", x.house(3), 0);
            for (int many = 1; many <= 12; many++) {
                x.set(0, many);
                Expect.same("enroll", x.enroll(0), many);
            }
            Expect.same("the 13th", x.enroll(0), -9);
            Expect.same("the first one", x.rollText(0), "0");
            Expect.same("the last one", x.rollText(11), "3 2");
            Expect.index("the number 12", Made::full, f -> f.rollText(12));
        });
    }

    private static String factored(String text, int how) {
        Formwheel x = Made.forms(text);
        x.factor(0, how);
        return Look.rollOf(x);
    }

    // ==== 3. Wheels, the shift row

    private static void wheels(Sentences s) {
        s.that("A WHEEL is a FORM of DEGREE 1 to 8 with a last digit 1", "each degree, with and without it", () -> {
            for (int degree = 0; degree < 40; degree++) {
                boolean isWheel = degree >= 1 && degree <= 8;
                Formwheel x = Made.forms(degree == 0 ? "0" : degree + " 0", String.valueOf(degree));
                Expect.same("start, degree " + degree, x.start(0), isWheel ? degree : -9);
                Expect.same("start without a last digit", x.start(1), -9);
                for (int how = 0; how < 3; how++) {
                    Expect.same("period, degree " + degree, x.period(0, how), isWheel ? degree : -9);
                    Expect.same("period without a last digit", x.period(1, how), -9);
                }
            }
            Expect.same("the empty one", new Formwheel().start(0), -9);
        });
        s.that("the least n, 1 or more, such that the UNIT shifted by n has by it the REST that the UNIT has",
            "1, the least one, and 255, the greatest", () -> {
                for (int how = 0; how < 3; how++) {
                    Expect.same("of 3", Made.of(3).period(0, how), 1);
                    Expect.same("of 285", Made.of(285).period(0, how), 255);
                }
            });
        s.that("the least power of 2 (1, 2, 4 ..) that is not less than how often the one stands there that stands there"
            + " most often", "1 to 8 times", () -> {
                int[] due = {1, 2, 4, 4, 8, 8, 8, 8};
                for (int many = 1; many <= 8; many++) {
                    Formwheel x = Made.forms("1 0", "8 0", "0");
                    for (int times = 0; times < many; times++) {
                        x.multiply(2, 0, 2);
                    }
                    for (int how = 0; how < 3; how++) {
                        Expect.same(many + " times by " + how, x.period(2, how), due[many - 1]);
                    }
                }
            });
        s.that("the least common multiple of the PERIODS of its FACTORS", "not their product, not the last one", () -> {
            for (int how = 0; how < 3; how++) {
                Expect.same("of 3 and 3", Made.forms("4 2 0").period(0, how), 6);
                Expect.same("of 7 and 7", Made.of(127).period(0, how), 7);
                Expect.same("of 3 and 7", Made.of(49).period(0, how), 21);
                Expect.same("of 3 and 15", Made.forms("6 5 4 3 0").period(0, how), 15);
            }
        });
        s.that("as many cells as its DEGREE d, from 0 to d - 1, each with a digit", "1 to 8", () -> {
            for (int degree = 1; degree <= 8; degree++) {
                Formwheel x = Made.row(1 << degree | 1);
                Expect.same("cells", x.rowText().length(), degree);
            }
        });
        s.that("At first the TAPS have the CODE 3, and the one cell a 1", "a new one", () ->
            Expect.same("row", new Formwheel().house(4) + " " + new Formwheel().rowText(), "3 1"));
        s.that("the new digit is 1, if the number of places k below d at which TAPS and the cell k have a 1 is odd",
            "0 to 8 such places", () -> {
                for (int many = 0; many <= 8; many++) {
                    Formwheel x = Made.row(511);
                    x.load((1 << many) - 1);
                    x.step(1);
                    Expect.same("the cell 7 behind " + many, x.rowText().charAt(7), many % 2 == 1 ? '1' : '0');
                }
            });
        s.that("the number of places k below d", "the place d itself takes no part", () -> {
            Formwheel x = Made.row(257);
            x.load(0);
            x.step(1);
            Expect.same("no ones", x.rowText(), "00000000");
            x.load(128);
            x.step(1);
            Expect.same("no tap at 7", x.rowText(), "00000010");
        });
        s.that("the digit of the cell 0 goes, each other one goes one cell down, and the new one comes to the cell d - 1",
            "each cell", () -> {
                for (int cell = 0; cell < 8; cell++) {
                    Formwheel x = Made.row(257);
                    x.load(1 << cell);
                    Expect.same("what goes", x.step(1), cell == 0 ? 1 : 0);
                    int down = cell == 0 ? 7 : cell - 1;
                    Expect.same("row", x.rowText(), "0".repeat(down) + "1" + "0".repeat(7 - down));
                }
            });
        s.that("Begun anew, the cell d - 1 has a 1, all others a 0", "1 to 8 cells", () -> {
            for (int degree = 1; degree <= 8; degree++) {
                Expect.same("row", Made.row(1 << degree | 1).rowText(), "0".repeat(degree - 1) + "1");
            }
        });
    }

    // ==== 4. Seals, bursts

    private static void seals(Sentences s) {
        s.that("CHECK of a FORM by a seal (a FORM of DEGREE 1 or more)", "the degrees none, 0 and 1", () -> {
            Expect.refused("by none", () -> Made.forms("3 0"), x -> x.seal(0, 1, 2));
            Expect.refused("by the unit", () -> Made.forms("3 0", "0"), x -> x.seal(0, 1, 2));
            Expect.does("by x", () -> Made.forms("3 0", "1"), x -> x.seal(0, 1, 2), 0, "form 2: 4 1");
            Expect.does("by 3", () -> Made.forms("3", "1 0"), x -> x.seal(0, 1, 2), 1, "form 2: 4 0");
        });
        s.that("a FORM that a WHEEL divides is not divided by it behind a BURST whose CODE, not 0, is below 2 to the"
            + " WHEEL's DEGREE", "each code below, and the wheel itself", () -> {
                for (int degree = 1; degree <= 8; degree++) {
                    int wheel = 1 << degree | 1;
                    for (int code = 0; code <= 1 << degree; code++) {
                        Formwheel x = Made.of(wheel, 1000, wheel);
                        x.multiply(0, 1, 1);
                        x.burst(1, 3, code);
                        Expect.same(wheel + " behind " + code, x.divides(0, 1), code == 0);
                    }
                    Formwheel x = Made.of(wheel, 1000);
                    x.multiply(0, 1, 1);
                    x.burst(1, 3, wheel);
                    Expect.same("behind itself", x.divides(0, 1), true);
                }
            });
    }

    // ==== what always holds

    private static void whatAlwaysHolds(Sentences s) {
        s.that("of each FORM a plain row of digits tells all, however it came to be", "one form by many ways", () -> {
            Map<String, Formwheel> ways = new LinkedHashMap<>();
            ways.put("set", Made.of(37));
            ways.put("digits", Made.forms("5 2 0"));
            Formwheel shifted = Made.full();
            shifted.set(0, 37);
            shifted.shift(0, 34);
            shifted.shift(0, -34);
            ways.put("shifted", shifted);
            Formwheel summed = Made.full();
            summed.run(0, 3, 40);
            summed.digit(0, 5, 1);
            summed.digit(0, 1, 0);
            ways.put("run", summed);
            Formwheel taken = Made.rollOf("5 2 0");
            taken.take(0, 0);
            ways.put("taken", taken);
            ways.forEach((name, x) -> {
                Expect.same(name + ", text", x.text(0), "5 2 0");
                Expect.same(name + ", code", x.code(0), 37);
                Expect.same(name + ", prime", x.isPrime(0, 1), 1);
                Expect.same(name + ", period", x.period(0, 2), 31);
            });
        });
        s.that("SUM and PRODUCT hang on no sequence, and one goes through the other", "many forms",
            LawTests::sumsAndProducts);
        s.that("a divided FORM is QUOTIENT by divisor and REST, the REST has the lesser DEGREE", "many forms",
            LawTests::quotientAndRest);
        s.that("and no other two are so", "all that could be, of small forms", LawTests::noOtherTwo);
        s.that("COMMON divides both, and is the SUM of both by their MULTIPLIERS", "many forms",
            LawTests::commonByMultipliers);
        s.that("COMMON of two: of all FORMS that divide both the greatest", "all that could be, of small forms",
            LawTests::commonIsGreatest);
        s.that("the SQUARE is the digits spread out, that of a SUM is the SUM of the SQUARES", "many forms",
            LawTests::squares);
        s.that("a PRODUCT turned round is the PRODUCT of the turned ones", "many forms", LawTests::turnedProducts);
        s.that("the FACTORS found by TRYING and by DEGREES are the same, their PRODUCT is the FORM", "each form",
            LawTests::factors);
        s.that("those of a FORM whose last digit is 1, turned round, are the FACTORS of the turned one", "each form",
            LawTests::turnedFactors);
        s.that("a FORM is PRIME by TRYING just if it is by RISING", "each form, and by its factors", LawTests::primes);
        s.that("the PERIOD of a WHEEL is the same by multiplying, by the SHIFT ROW begun anew, and by its FACTORS",
            "each wheel", LawTests::periods);
        s.that("that of a PRIME of DEGREE n divides 2^n - 1, that of the turned one is the same", "each wheel",
            LawTests::periodsOfPrimesAndTurned);
        s.that("a sealed FORM is divided by its seal, and, if that is a WHEEL, is no more behind a BURST shorter than it",
            "many forms", LawTests::sealsAndBursts);
        s.that("and what is asked changes nothing", "all at once", () -> {
            for (Supplier<Formwheel> made : Made.unlike()) {
                Formwheel x = made.get();
                String before = Look.at(x);
                askedCalls().forEach((name, call) -> call.accept(x));
                Expect.same("what is there", Look.at(x), before);
            }
        });
        s.that("and none stands there twice just if it and its SLOPE have the UNIT in common", "one, two, three times", () -> {
            String[] texts = {"1 0", "2 0", "3 2 1 0", "2 1 0", "4 2 0", "5 2 0", "10 4 0", "2 1", "2", "1"};
            boolean[] areUnlike = {true, false, false, true, false, true, false, true, false, true};
            for (int k = 0; k < texts.length; k++) {
                Formwheel x = Made.forms(texts[k], texts[k]);
                x.slope(1);
                Expect.same(texts[k], x.common(0, 1, 2) == 0, areUnlike[k]);
            }
        });
        s.that("the PRODUCT of all whose DEGREE divides n (at most 5) is the SUM of X RISEN n times and X", "1 to 5", () -> {
            for (int n = 1; n <= 5; n++) {
                Formwheel x = new Formwheel();
                x.allPrimes(n, 0);
                Expect.same("of " + n, x.text(0), (1 << n) + " 1");
            }
        });
        s.that("and after how many STEPS any cells come again divides it", "all cells of 37 and of 511", () -> {
            for (int taps : new int[] {37, 511, 257, 3}) {
                Formwheel begun = Made.row(taps);
                int period = begun.again();
                Expect.same("begun anew", begun.period(0, 0), period);
                for (int code = 0; code < 1 << begun.degree(0); code++) {
                    Formwheel x = Made.row(taps);
                    x.load(code);
                    Expect.same("of the cells " + code, period % x.again(), 0);
                }
            }
        });
    }
}
