/** All that can be seen of an object, as one text. It takes some 40 calls. */
final class Look {
    private Look() {
    }

    static String at(Formwheel x) {
        return withoutRefusals(x) + " refused " + x.house(1);
    }

    static String withoutRefusals(Formwheel x) {
        StringBuilder seen = new StringBuilder();
        for (int form = 0; form < 6; form++) {
            seen.append('[').append(x.text(form)).append(']');
        }
        seen.append(" roll ");
        for (int k = 0; k < x.house(3); k++) {
            seen.append('[').append(x.rollText(k)).append(']');
        }
        seen.append(" taps ").append(x.house(4)).append(" cells ").append(x.rowText());
        seen.append(" acts ").append(x.house(0)).append(" knocks ").append(x.house(2));
        return seen.append(" ones ").append(x.house(5)).toString();
    }
}
