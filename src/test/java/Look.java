import java.util.ArrayList;
import java.util.List;

/** All that can be seen of an object, line by line or as one text. It takes some 40 calls. */
final class Look {
    private Look() {
    }

    static String at(Formwheel x) {
        return withoutRefusals(x) + " refused " + x.house(1);
    }

    static String withoutRefusals(Formwheel x) {
        StringBuilder seen = new StringBuilder();
        for (int form = 0; form < 6; form++) {
            seen.append('[').append(x.text(form)).append(']');
        }
        seen.append(" roll ").append(rollOf(x));
        seen.append(" taps ").append(x.house(4)).append(" cells ").append(x.rowText());
        seen.append(" acts ").append(x.house(0)).append(" knocks ").append(x.house(2));
        return seen.append(" ones ").append(x.house(5)).toString();
    }

    /** Each one of the roll in brackets, so that an empty one can be seen, too. */
    static String rollOf(Formwheel x) {
        StringBuilder seen = new StringBuilder();
        for (int k = 0; k < x.house(3); k++) {
            seen.append('[').append(x.rollText(k)).append(']');
        }
        return seen.toString();
    }

    /** Each line has a head, then ": ". */
    static List<String> lines(Formwheel x) {
        List<String> seen = new ArrayList<>();
        for (int form = 0; form < 6; form++) {
            seen.add("form " + form + ": " + x.text(form));
        }
        seen.add("roll: " + rollOf(x));
        seen.add("taps: " + x.house(4));
        seen.add("cells: " + x.rowText());
        seen.add("acts: " + x.house(0));
        seen.add("refused: " + x.house(1));
        seen.add("knocks: " + x.house(2));
        return seen;
    }

    /** The lines, but with these in the place of those that have the same head. */
    static List<String> with(List<String> lines, String... changes) {
        List<String> due = new ArrayList<>(lines);
        for (String change : changes) {
            String head = change.substring(0, change.indexOf(": ") + 2);
            due.replaceAll(line -> line.startsWith(head) ? change : line);
        }
        return due;
    }
}
