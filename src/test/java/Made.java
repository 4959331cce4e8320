import java.util.List;
import java.util.function.Supplier;

/** Objects to begin tests with. */
final class Made {
    private Made() {
    }

    /** An object whose forms 0, 1 .. have these codes. */
    static Formwheel of(int... codes) {
        Formwheel x = new Formwheel();
        for (int form = 0; form < codes.length; form++) {
            x.set(form, codes[form]);
        }
        return x;
    }

    /**
     * One in which all differs from a new one: forms of degree 5, 20, none, 39, 0 and 10; a roll of three,
     * an empty one among them; taps of code 37 and cells 10101; one refusal and two knocks.
     */
    static Formwheel busy() {
        Formwheel x = of(37, 1 << 20 | 5, 0, 1 << 30 | 3, 1, 1023 ^ 1024);
        x.shift(3, 9);
        x.enroll(0);
        x.enroll(2);
        x.enroll(5);
        x.start(0);
        x.load(21);
        x.start(2);
        x.knock();
        x.knock();
        return x;
    }

    /** One with so many of a code in the roll, which is the code of form 0, too. */
    static Formwheel rolled(int many, int code) {
        Formwheel x = of(code);
        for (int k = 0; k < many; k++) {
            x.enroll(0);
        }
        return x;
    }

    /** One with these codes in the roll; form 0 has the last one. */
    static Formwheel roll(int... codes) {
        Formwheel x = new Formwheel();
        for (int code : codes) {
            x.set(0, code);
            x.enroll(0);
        }
        return x;
    }

    /** One whose shift row has taps of a code, begun anew. */
    static Formwheel row(int taps) {
        Formwheel x = of(taps);
        x.start(0);
        return x;
    }

    /** One whose forms 0, 1 .. have a 1 at these places, told as text() tells them. */
    static Formwheel forms(String... texts) {
        Formwheel x = new Formwheel();
        for (int form = 0; form < texts.length; form++) {
            put(x, form, texts[form]);
        }
        return x;
    }

    /** One with these in the roll, told as text() tells them; form 0 has the last one. */
    static Formwheel rollOf(String... texts) {
        Formwheel x = new Formwheel();
        for (String text : texts) {
            x.set(0, 0);
            put(x, 0, text);
            x.enroll(0);
        }
        return x;
    }

    private static void put(Formwheel x, int form, String text) {
        if (!text.isEmpty()) {
            for (String place : text.split(" ")) {
                x.digit(form, Integer.parseInt(place), 1);
            }
        }
    }

    /** One in which all is full: forms of forty ones, twelve of them in the roll, eight cells with a 1 each. */
    static Formwheel full() {
        Formwheel x = of(511);
        x.start(0);
        x.load(255);
        x.set(0, 0);
        for (int form = 0; form < 6; form++) {
            x.run(form, 0, 40);
        }
        for (int k = 0; k < 12; k++) {
            x.enroll(0);
        }
        return x;
    }

    /** A new one, a busy one, and a full one. */
    static List<Supplier<Formwheel>> unlike() {
        return List.of(Formwheel::new, Made::busy, Made::full);
    }

    /** The places of a run of ones, the greatest first, as text() tells them. */
    static String run(int from, int to) {
        StringBuilder places = new StringBuilder();
        for (int place = to - 1; place >= from; place--) {
            places.append(place == to - 1 ? "" : " ").append(place);
        }
        return places.toString();
    }
}
