import java.math.BigInteger;
import java.util.ArrayList;
import java.util.List;

/** The sentences of promises 48 to 51: house, knock, isSound, digest. */
final class WholeSentences {
    private static final String FULL = Made.run(0, 40);

    private WholeSentences() {
    }

    static void tell(Sentences s) {
        p48House(s);
        p49Knock(s);
        p50IsSound(s);
        p51Digest(s);
    }

    private static void p48House(Sentences s) {
        s.under("Promise 48");
        s.that("0 how many acts were done", "none, one, 500", () -> {
            Expect.asked("a new one", Formwheel::new, x -> x.house(0), 0);
            Formwheel x = new Formwheel();
            for (int times = 1; times <= 500; times++) {
                x.step(0);
            }
            Expect.same("500", x.house(0), 500);
        });
        s.that("0 how many acts were done", "no refused one, none that throws, no knock", () -> {
            Formwheel x = Made.of(37);
            x.divide(0, 1, 2);
            x.knock();
            x.isSound();
            Expect.argument("one that throws", () -> Made.of(37), f -> f.set(0, -1));
            Expect.same("acts", x.house(0), 1);
        });
        s.that("1 how often REFUSED was told", "none, one, 500, and not what is asked", () -> {
            Expect.asked("a new one", Formwheel::new, x -> x.house(1), 0);
            Formwheel x = new Formwheel();
            x.check(0, 1);
            x.period(0, 0);
            Expect.same("asked", x.house(1), 0);
            for (int times = 1; times <= 500; times++) {
                x.start(0);
            }
            Expect.same("500", x.house(1), 500);
            Expect.same("acts", x.house(0), 0);
        });
        s.that("2 how often one knocked", "none, one, 500", () -> {
            Expect.asked("a new one", Formwheel::new, x -> x.house(2), 0);
            Formwheel x = new Formwheel();
            for (int times = 1; times <= 500; times++) {
                x.knock();
            }
            Expect.same("500", x.house(2), 500);
        });
        s.that("3 how many the ROLL has", "0 to 12", () -> {
            for (int many = 0; many <= 12; many++) {
                int due = many;
                Expect.asked("of " + many, () -> Made.rolled(due, 0), x -> x.house(3), due);
            }
        });
        s.that("4 CODE of the TAPS", "the least, the greatest, and behind a refused start", () -> {
            Expect.asked("a new one", Formwheel::new, x -> x.house(4), 3);
            Expect.asked("511", () -> Made.row(511), x -> x.house(4), 511);
            Formwheel x = Made.row(257);
            x.start(1);
            x.step(3);
            Expect.same("behind a refused start", x.house(4), 257);
        });
        s.that("5 how many ones all FORMS have", "0 to 240, and none of the roll or the cells", () -> {
            Expect.asked("a new one", Formwheel::new, x -> x.house(5), 0);
            Expect.asked("full ones", Made::full, x -> x.house(5), 240);
            Expect.asked("a busy one", Made::busy, x -> x.house(5), 3 + 3 + 0 + 3 + 1 + 11);
            for (int form = 0; form < 6; form++) {
                int one = form;
                Formwheel x = new Formwheel();
                x.run(one, 0, 40);
                Expect.same("form " + form, x.house(5), 40);
            }
        });
        s.that("Returns that", "all six at once", () -> {
            int[] due = {12, 1, 2, 3, 37, 21};
            for (int what = 0; what < 6; what++) {
                int one = what;
                Expect.asked("house(" + what + ")", Made::busy, x -> x.house(one), due[what]);
            }
        });
        s.that("Throws IllegalArgumentException if what is not 0 to 5", "-1 and 6, 0 and 5", () -> {
            Expect.notArguments("house", Formwheel::house, -1, 6, Integer.MIN_VALUE, Integer.MAX_VALUE);
            Expect.right("house", Formwheel::house, 0, 1, 2, 3, 4, 5);
        });
    }

    private static void p49Knock(Sentences s) {
        s.under("Promise 49");
        s.that("Returns how often one knocked, with this", "1 to 100", () -> {
            Formwheel x = new Formwheel();
            for (int times = 1; times <= 100; times++) {
                Expect.same("knock", x.knock(), times);
                Expect.same("house(2)", x.house(2), times);
            }
        });
        s.that("Knocks", "nothing else is other then", () -> {
            for (int k = 0; k < 3; k++) {
                Formwheel x = Made.unlike().get(k).get();
                List<String> before = Look.lines(x);
                int many = x.house(2) + 1;
                Expect.same("knock", x.knock(), many);
                Expect.same("what is there", Look.lines(x), Look.with(before, "knocks: " + many));
            }
        });
    }

    private static void p50IsSound(Sentences s) {
        s.under("Promise 50");
        s.that("Returns whether all of this is so (by WHAT ALWAYS HOLDS it always is)", "a new, a busy, a full one", () -> {
            Expect.asked("new", Formwheel::new, Formwheel::isSound, true);
            Expect.asked("busy", Made::busy, Formwheel::isSound, true);
            Expect.asked("full", Made::full, Formwheel::isSound, true);
        });
        s.that("with a and b the digits of the FORMS 0 and 1 at the places 0 to 8", "ones above the place 8", () -> {
            Expect.asked("at 9 alone", () -> Made.forms("9", "9"), Formwheel::isSound, true);
            Expect.asked("at 39 and 8", () -> Made.forms("39 8", "39 8"), Formwheel::isSound, true);
            Expect.asked("full and empty", () -> Made.forms(FULL, ""), Formwheel::isSound, true);
            Expect.asked("empty and full", () -> Made.forms("", FULL), Formwheel::isSound, true);
        });
        s.that("divided by b (if that is not EMPTY) it is a", "b is empty, and is the unit", () -> {
            Expect.asked("empty", () -> Made.of(511, 0), Formwheel::isSound, true);
            Expect.asked("empty below 9", () -> Made.of(511, 512), Formwheel::isSound, true);
            Expect.asked("the unit", () -> Made.of(511, 1), Formwheel::isSound, true);
            Expect.asked("both empty", () -> Made.of(0, 0), Formwheel::isSound, true);
        });
        s.that("a by b is b by a", "unlike, like, full ones", () -> {
            Expect.asked("unlike", () -> Made.of(37, 6), Formwheel::isSound, true);
            Expect.asked("like", () -> Made.of(37, 37), Formwheel::isSound, true);
            Expect.asked("full", () -> Made.of(511, 511), Formwheel::isSound, true);
        });
        s.that("a by a is the SQUARE", "of degree 8", () -> {
            Expect.asked("256", () -> Made.of(256, 1), Formwheel::isSound, true);
            Expect.asked("511", () -> Made.of(511, 1), Formwheel::isSound, true);
        });
        s.that("COMMON divides both, and is the SUM of both by their MULTIPLIERS", "empty ones, and all that divide", () -> {
            for (int code = 0; code < 512; code += 7) {
                Expect.so("with none", Made.of(code, 0).isSound());
                Expect.so("of none", Made.of(0, code).isSound());
                Expect.so("with 300", Made.of(code, 300).isSound());
            }
        });
        s.that("if the DEGREE of a is 1 or more", "none, 0, 1 and 8", () -> {
            for (int code : new int[] {0, 1, 2, 3, 256, 257, 510, 511}) {
                Expect.asked("of " + code, () -> Made.of(code, 7), Formwheel::isSound, true);
            }
        });
        s.that("if a is a WHEEL", "each a, wheel or not", () -> {
            for (int a = 0; a < 512; a++) {
                Expect.so("of " + a, Made.of(a, 511 - a).isSound());
            }
        });
        s.that("and the TAPS are a WHEEL", "each wheel", () -> {
            for (int taps = 3; taps < 512; taps += 2) {
                Expect.so("of " + taps, Made.row(taps).isSound());
            }
        });
    }

    private static void p51Digest(Sentences s) {
        s.under("Promise 51");
        s.that("A number d starts with 8029; then d becomes d * 31 + v", "a new one, by hand", () ->
            Expect.asked("digest", Formwheel::new, Formwheel::digest, folded(List.of(
                -1, -1, -1, -1, -1, -1, -1, -1, -1, -1, -1, -1, 0, 3, 1, 0, 0, 0, 0, 3, 0, 1))));
        s.that("which wraps around as a 64-bit integer", "long rows of numbers", () -> {
            Expect.asked("full", Made::full, Formwheel::digest, folded(rowOf(Made.full())));
            Expect.asked("busy", Made::busy, Formwheel::digest, folded(rowOf(Made.busy())));
        });
        s.that("FORM by FORM degree(), lowest(), and each place with a 1, the greatest first", "by hand", () ->
            Expect.asked("digest", () -> Made.forms("39 7 0", "", "5"), Formwheel::digest, folded(List.of(
                39, 0, 39, 7, 0, -1, -1, 5, 5, 5, -1, -1, -1, -1, -1, -1, 0, 3, 1, 4, 0, 0, 0, 3, 4, 1))));
        s.that("of the ROLL how many, then one by one its DEGREE and how many ones it has", "an empty one, and 12", () -> {
            Expect.asked("by hand", () -> Made.rollOf("39 7 0", "", "5"), Formwheel::digest, folded(List.of(
                5, 5, 5, -1, -1, -1, -1, -1, -1, -1, -1, -1, -1, 3, 39, 3, -1, 0, 5, 1, 3, 1, 10, 0, 0, 3, 3, 1, 1)));
            Expect.asked("12", () -> Made.rolled(12, 1023), Formwheel::digest, folded(rowOf(Made.rolled(12, 1023))));
        });
        s.that("CODE of the TAPS, and the digit of each cell", "8 cells, by hand", () -> {
            Formwheel x = Made.row(257);
            x.load(0b00010110);
            x.set(0, 0);
            Expect.same("digest", x.digest(), folded(List.of(-1, -1, -1, -1, -1, -1, -1, -1, -1, -1, -1, -1, 0,
                257, 0, 1, 1, 0, 1, 0, 0, 0, 4, 0, 0, 0, 257, 0, 1)));
        });
        s.that("house() of 0 to 5", "each of them tells", () -> {
            Formwheel x = new Formwheel();
            x.step(0);
            x.start(0);
            x.start(0);
            x.knock();
            x.knock();
            x.knock();
            Expect.same("digest", x.digest(), folded(List.of(
                -1, -1, -1, -1, -1, -1, -1, -1, -1, -1, -1, -1, 0, 3, 1, 1, 2, 3, 0, 3, 0, 1)));
        });
        s.that("Computes a checksum", "and changes nothing", () -> {
            Formwheel x = Made.busy();
            long first = x.digest();
            Expect.same("once more", x.digest(), first);
            x.set(0, 37);
            Expect.so("an act that changes nothing is counted", x.digest() != first);
        });
    }

    /** What the document tells, without a bound; then the last 64 bits. */
    private static long folded(List<Integer> row) {
        BigInteger d = BigInteger.valueOf(8029);
        for (int v : row) {
            d = d.multiply(BigInteger.valueOf(31)).add(BigInteger.valueOf(v));
        }
        return d.longValue();
    }

    /** The numbers of the digest, by what the other methods tell. */
    private static List<Integer> rowOf(Formwheel x) {
        List<Integer> row = new ArrayList<>();
        for (int form = 0; form < 6; form++) {
            row.add(x.degree(form));
            row.add(x.lowest(form));
            placesInto(row, x.text(form));
        }
        row.add(x.house(3));
        for (int k = 0; k < x.house(3); k++) {
            List<Integer> places = new ArrayList<>();
            placesInto(places, x.rollText(k));
            row.add(places.isEmpty() ? -1 : places.get(0));
            row.add(places.size());
        }
        row.add(x.house(4));
        for (char digit : x.rowText().toCharArray()) {
            row.add(digit - '0');
        }
        for (int what = 0; what <= 5; what++) {
            row.add(x.house(what));
        }
        row.add(x.isSound() ? 1 : 0);
        return row;
    }

    private static void placesInto(List<Integer> row, String text) {
        if (!text.isEmpty()) {
            for (String place : text.split(" ")) {
                row.add(Integer.parseInt(place));
            }
        }
    }
}
