import java.util.ArrayList;
import java.util.BitSet;
import java.util.List;

/**
 * Forms as sets of places without a bound, for the plain model: what goes beyond the place 39 is written
 * out in full here, and what is looked for is looked for among all.
 */
final class PlainForm {
    private PlainForm() {
    }

    static BitSet ofCode(long code) {
        return BitSet.valueOf(new long[] {code});
    }

    static BitSet ofPlace(int place) {
        BitSet form = new BitSet();
        form.set(place);
        return form;
    }

    static long code(BitSet form) {
        return form.isEmpty() ? 0 : form.toLongArray()[0];
    }

    static int degree(BitSet form) {
        return form.length() - 1;
    }

    static BitSet sum(BitSet one, BitSet other) {
        BitSet sum = new BitSet();
        for (int place = 0; place < Math.max(one.length(), other.length()); place++) {
            sum.set(place, one.get(place) != other.get(place));
        }
        return sum;
    }

    static BitSet product(BitSet one, BitSet other) {
        BitSet product = new BitSet();
        for (int i = one.nextSetBit(0); i >= 0; i = one.nextSetBit(i + 1)) {
            for (int j = other.nextSetBit(0); j >= 0; j = other.nextSetBit(j + 1)) {
                product.flip(i + j);
            }
        }
        return product;
    }

    static BitSet shifted(BitSet form, int by) {
        BitSet shifted = new BitSet();
        for (int k = form.nextSetBit(0); k >= 0; k = form.nextSetBit(k + 1)) {
            if (k + by >= 0) {
                shifted.set(k + by);
            }
        }
        return shifted;
    }

    /** Quotient and rest. By the empty form it would not end: then the class has told a test a wrong form. */
    static BitSet[] divided(BitSet form, BitSet by) {
        if (by.isEmpty()) {
            throw new IllegalArgumentException("no form is divided by the empty one");
        }
        BitSet quotient = new BitSet();
        BitSet left = (BitSet) form.clone();
        while (degree(left) >= degree(by)) {
            int up = degree(left) - degree(by);
            quotient.set(up);
            left.xor(shifted(by, up));
        }
        return new BitSet[] {quotient, left};
    }

    static boolean goesInto(BitSet one, BitSet other) {
        return one.isEmpty() ? other.isEmpty() : divided(other, one)[1].isEmpty();
    }

    /** Common of both, and both multipliers, by the two rows that the document tells. */
    static BitSet[] multipliers(BitSet one, BitSet other) {
        BitSet[] first = {one, ofPlace(0), new BitSet()};
        BitSet[] second = {other, new BitSet(), ofPlace(0)};
        while (!second[0].isEmpty()) {
            BitSet q = divided(first[0], second[0])[0];
            BitSet[] next = new BitSet[3];
            for (int place = 0; place < 3; place++) {
                next[place] = sum(first[place], product(q, second[place]));
            }
            first = second;
            second = next;
        }
        return first;
    }

    static boolean isPrime(BitSet form) {
        if (degree(form) < 1) {
            return false;
        }
        for (long code = 2; code < 1L << degree(form); code++) {
            if (goesInto(ofCode(code), form)) {
                return false;
            }
        }
        return true;
    }

    /** The least one first. */
    static List<BitSet> factors(BitSet form) {
        List<BitSet> found = new ArrayList<>();
        BitSet left = form;
        for (long code = 2; degree(left) > 0; code++) {
            while (degree(left) > 0 && goesInto(ofCode(code), left)) {
                found.add(ofCode(code));
                left = divided(left, ofCode(code))[0];
            }
        }
        return found;
    }

    static boolean isWheel(BitSet form) {
        return degree(form) >= 1 && degree(form) <= 8 && form.get(0);
    }

    static int period(BitSet wheel) {
        int n = 1;
        while (!divided(ofPlace(n), wheel)[1].equals(ofPlace(0))) {
            n++;
        }
        return n;
    }

    static String text(BitSet form) {
        List<String> places = new ArrayList<>();
        for (int place = degree(form); place >= 0; place--) {
            if (form.get(place)) {
                places.add(String.valueOf(place));
            }
        }
        return String.join(" ", places);
    }
}
