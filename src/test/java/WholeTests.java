/** Promises 48 to 51: house, knock, isSound, digest. */
final class WholeTests {
    private WholeTests() {
    }

    static void p48House() {
        // Six forms set, one shifted, three enrolled, one start, one load; the ones are 3, 3, 0, 3, 1 and 11.
        int[] due = {12, 1, 2, 3, 37, 21};
        for (int what = 0; what <= 5; what++) {
            int one = what;
            Expect.asked("house(" + what + ")", Made::busy, f -> f.house(one), due[what]);
            Expect.same("house(" + what + ") of a new one", new Formwheel().house(what), what == 4 ? 3 : 0);
        }
        Formwheel full = new Formwheel();
        for (int form = 0; form < 6; form++) {
            full.run(form, 0, 40);
        }
        Expect.same("ones of all", full.house(5), 240);
        Expect.argument("house(6)", Made::busy, f -> f.house(6));
        Expect.argument("house(-1)", Made::busy, f -> f.house(-1));
    }

    static void p49Knock() {
        Formwheel x = new Formwheel();
        for (int times = 1; times <= 5; times++) {
            Expect.same("knock()", x.knock(), times);
            Expect.same("house(2)", x.house(2), times);
        }
        Expect.same("acts and refusals", x.house(0) + x.house(1), 0);
        Expect.same("another object", new Formwheel().knock(), 1);
    }

    static void p50IsSound() {
        Expect.asked("isSound()", Made::busy, Formwheel::isSound, true);
        Expect.asked("of a new one", Formwheel::new, Formwheel::isSound, true);
        for (int a = 0; a < 512; a++) {
            Formwheel x = Made.of(a, a * 37 % 512);
            Expect.so("isSound() of " + a, x.isSound());
            x.run(0, 9, 40);
            x.digit(1, 30, 1);
            Expect.so("isSound() of " + a + " with long forms", x.isSound());
        }
    }

    static void p51Digest() {
        Expect.same("of a new one", new Formwheel().digest(), digestOf(new Formwheel()));
        Expect.same("of a busy one", Made.busy().digest(), digestOf(Made.busy()));
        Expect.asked("digest()", Made::busy, Formwheel::digest, digestOf(Made.busy()));
        Expect.same("of a full roll", Made.rolled(12, 1023).digest(), digestOf(Made.rolled(12, 1023)));
        Formwheel x = Made.row(285);
        x.load(201);
        x.run(5, 0, 40);
        Expect.same("of a long row", x.digest(), digestOf(x));
        long before = x.digest();
        x.step(255);
        x.step(0);
        Expect.so("two more acts tell", x.digest() != before);
        Expect.same("by hand", new Formwheel().digest(), digestOfNewByHand());
    }

    /** A new one: six forms of -1, -1; a roll of 0; taps 3; cell 1; house 0, 0, 0, 0, 3, 0; sound. */
    private static long digestOfNewByHand() {
        long d = 8029;
        int[] rows = {-1, -1, -1, -1, -1, -1, -1, -1, -1, -1, -1, -1, 0, 3, 1, 0, 0, 0, 0, 3, 0, 1};
        for (int v : rows) {
            d = d * 31 + v;
        }
        return d;
    }

    /** By what the other methods tell. */
    private static long digestOf(Formwheel x) {
        long d = 8029;
        for (int form = 0; form < 6; form++) {
            d = d * 31 + x.degree(form);
            d = d * 31 + x.lowest(form);
            for (int place = 39; place >= 0; place--) {
                d = x.has(form, place) ? d * 31 + place : d;
            }
        }
        d = d * 31 + x.house(3);
        for (int k = 0; k < x.house(3); k++) {
            String text = x.rollText(k);
            String[] places = text.split(" ");
            d = d * 31 + (text.isEmpty() ? -1 : Integer.parseInt(places[0]));
            d = d * 31 + (text.isEmpty() ? 0 : places.length);
        }
        d = d * 31 + x.house(4);
        for (char digit : x.rowText().toCharArray()) {
            d = d * 31 + (digit - '0');
        }
        for (int what = 0; what <= 5; what++) {
            d = d * 31 + x.house(what);
        }
        return d * 31 + (x.isSound() ? 1 : 0);
    }
}
