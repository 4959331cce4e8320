import java.util.ArrayList;
import java.util.BitSet;
import java.util.Collections;
import java.util.Comparator;
import java.util.List;

/** The document told once more, in the plainest way, to be run beside Formwheel. */
public final class PlainWheel {
    private final BitSet[] forms = new BitSet[6];
    private final List<BitSet> roll = new ArrayList<>();
    private BitSet taps = PlainForm.ofCode(3);
    private List<Integer> cells = new ArrayList<>(List.of(1));
    private int acts = 0;
    private int refusals = 0;
    private int knocks = 0;

    public PlainWheel() {
        for (int form = 0; form < 6; form++) {
            forms[form] = new BitSet();
        }
    }

    private static void index(boolean isRight) {
        if (!isRight) {
            throw new IndexOutOfBoundsException();
        }
    }

    private static void argument(boolean isRight) {
        if (!isRight) {
            throw new IllegalArgumentException();
        }
    }

    private static void areForms(int... given) {
        for (int form : given) {
            index(form >= 0 && form <= 5);
        }
    }

    private int done(int answer) {
        acts++;
        return answer;
    }

    private int refused() {
        refusals++;
        return -9;
    }

    private int becomes(int into, BitSet form) {
        forms[into] = (BitSet) form.clone();
        return done(PlainForm.degree(form));
    }

    public int set(int form, int code) {
        areForms(form);
        argument(code >= 0);
        int before = PlainForm.degree(forms[form]);
        forms[form] = PlainForm.ofCode(code);
        return done(before);
    }

    public int digit(int form, int place, int how) {
        index(form >= 0 && form <= 5 && place >= 0 && place <= 39);
        argument(how >= 0 && how <= 2);
        boolean before = forms[form].get(place);
        forms[form].set(place, how == 1 || how == 2 && !before);
        return done(forms[form].get(place) != before ? 1 : 0);
    }

    public int run(int form, int from, int to) {
        areForms(form);
        argument(0 <= from && from <= to && to <= 40);
        for (int place = from; place < to; place++) {
            forms[form].flip(place);
        }
        return done(forms[form].cardinality());
    }

    public int copy(int form, int into) {
        areForms(form, into);
        return becomes(into, forms[form]);
    }

    public int swap(int form, int other) {
        areForms(form, other);
        BitSet kept = forms[form];
        forms[form] = forms[other];
        forms[other] = kept;
        return done(forms[form].equals(kept) ? 0 : 1);
    }

    public int shift(int form, int by) {
        areForms(form);
        argument(by >= -39 && by <= 39);
        BitSet shifted = PlainForm.shifted(forms[form], by);
        return PlainForm.degree(shifted) > 39 ? refused() : becomes(form, shifted);
    }

    public int turn(int form) {
        areForms(form);
        return becomes(form, turned(forms[form]));
    }

    private static BitSet turned(BitSet form) {
        BitSet turned = new BitSet();
        for (int place = 0; place < form.length(); place++) {
            turned.set(form.length() - 1 - place, form.get(place));
        }
        return turned;
    }

    public int slope(int form) {
        areForms(form);
        BitSet slope = new BitSet();
        for (int place = 0; place < 40; place += 2) {
            slope.set(place, forms[form].get(place + 1));
        }
        return becomes(form, slope);
    }

    public int add(int one, int other, int into) {
        areForms(one, other, into);
        return becomes(into, PlainForm.sum(forms[one], forms[other]));
    }

    public int multiply(int one, int other, int into) {
        areForms(one, other, into);
        BitSet product = PlainForm.product(forms[one], forms[other]);
        return PlainForm.degree(product) > 39 ? refused() : becomes(into, product);
    }

    public int square(int form, int into) {
        areForms(form, into);
        BitSet product = PlainForm.product(forms[form], forms[form]);
        return PlainForm.degree(product) > 39 ? refused() : becomes(into, product);
    }

    public int divide(int one, int by, int into) {
        areForms(one, by, into);
        return forms[by].isEmpty() ? refused() : becomes(into, PlainForm.divided(forms[one], forms[by])[0]);
    }

    public int remain(int one, int by, int into) {
        areForms(one, by, into);
        return forms[by].isEmpty() ? refused() : becomes(into, PlainForm.divided(forms[one], forms[by])[1]);
    }

    public int common(int one, int other, int into) {
        areForms(one, other, into);
        return becomes(into, PlainForm.multipliers(forms[one], forms[other])[0]);
    }

    public int multipliers(int one, int other, int into, int next) {
        areForms(one, other, into, next);
        argument(into != next);
        BitSet[] row = PlainForm.multipliers(forms[one], forms[other]);
        forms[into] = (BitSet) row[1].clone();
        forms[next] = (BitSet) row[2].clone();
        return done(PlainForm.degree(row[0]));
    }

    public int power(int form, int many, int by, int into) {
        areForms(form, by, into);
        argument(many >= 0 && many <= 255);
        if (forms[by].isEmpty() || PlainForm.degree(forms[by]) > 20) {
            return refused();
        }
        BitSet product = PlainForm.ofPlace(0);
        for (int times = 0; times < many; times++) {
            product = PlainForm.product(product, forms[form]);
        }
        return becomes(into, PlainForm.divided(product, forms[by])[1]);
    }

    public int allPrimes(int n, int into) {
        areForms(into);
        argument(n >= 1 && n <= 5);
        return becomes(into, PlainForm.sum(PlainForm.ofPlace(1 << n), PlainForm.ofPlace(1)));
    }

    private boolean isTooLong(int form, int by) {
        return PlainForm.degree(forms[form]) + PlainForm.degree(forms[by]) > 39;
    }

    private BitSet checkOf(int form, int by) {
        BitSet shifted = PlainForm.shifted(forms[form], PlainForm.degree(forms[by]));
        return PlainForm.divided(shifted, forms[by])[1];
    }

    public int seal(int form, int by, int into) {
        areForms(form, by, into);
        if (PlainForm.degree(forms[by]) < 1 || isTooLong(form, by)) {
            return refused();
        }
        BitSet check = checkOf(form, by);
        forms[into] = PlainForm.sum(PlainForm.shifted(forms[form], PlainForm.degree(forms[by])), check);
        return done(check.cardinality());
    }

    public int burst(int form, int place, int code) {
        index(form >= 0 && form <= 5 && place >= 0 && place <= 39);
        argument(code >= 0 && code <= 4095);
        BitSet burst = PlainForm.shifted(PlainForm.ofCode(code), place);
        if (PlainForm.degree(burst) > 39) {
            return refused();
        }
        forms[form] = PlainForm.sum(forms[form], burst);
        return done(forms[form].cardinality());
    }

    public int factor(int form, int how) {
        areForms(form);
        argument(how == 0 || how == 1);
        if (PlainForm.degree(forms[form]) < 1 || PlainForm.degree(forms[form]) > 10) {
            return refused();
        }
        roll.clear();
        roll.addAll(PlainForm.factors(forms[form]));
        if (how == 1) {
            Collections.reverse(roll);
        }
        return done(roll.size());
    }

    public int enroll(int form) {
        areForms(form);
        if (roll.size() == 12) {
            return refused();
        }
        roll.add((BitSet) forms[form].clone());
        return done(roll.size());
    }

    public int strike(int k) {
        index(k >= 0 && k < roll.size());
        return done(PlainForm.degree(roll.remove(k)));
    }

    public int clear() {
        int before = roll.size();
        roll.clear();
        return done(before);
    }

    private int becomesRoll(List<BitSet> after) {
        int others = 0;
        for (int k = 0; k < after.size(); k++) {
            others += after.get(k).equals(roll.get(k)) ? 0 : 1;
        }
        roll.clear();
        roll.addAll(after);
        return done(others);
    }

    public int sort(boolean isFalling) {
        List<BitSet> after = new ArrayList<>(roll);
        Comparator<BitSet> lesser = Comparator.comparing(PlainForm::code);
        after.sort(isFalling ? lesser.reversed() : lesser);
        return becomesRoll(after);
    }

    public int turnAll() {
        List<BitSet> after = new ArrayList<>();
        for (BitSet one : roll) {
            after.add(turned(one));
        }
        return becomesRoll(after);
    }

    public int take(int k, int into) {
        index(k >= 0 && k < roll.size());
        areForms(into);
        return becomes(into, roll.get(k));
    }

    public int product(int into) {
        areForms(into);
        BitSet product = PlainForm.ofPlace(0);
        for (BitSet one : roll) {
            product = PlainForm.product(product, one);
        }
        return PlainForm.degree(product) > 39 ? refused() : becomes(into, product);
    }

    public int start(int form) {
        areForms(form);
        if (!PlainForm.isWheel(forms[form])) {
            return refused();
        }
        taps = (BitSet) forms[form].clone();
        cells = begun(taps);
        return done(cells.size());
    }

    private static List<Integer> begun(BitSet taps) {
        List<Integer> row = new ArrayList<>(Collections.nCopies(PlainForm.degree(taps), 0));
        row.set(row.size() - 1, 1);
        return row;
    }

    private static int stepped(List<Integer> row, BitSet taps) {
        int both = 0;
        for (int k = 0; k < row.size(); k++) {
            both += taps.get(k) && row.get(k) == 1 ? 1 : 0;
        }
        row.add(both % 2);
        return row.remove(0);
    }

    public int step(int many) {
        argument(many >= 0 && many <= 255);
        int gone = 0;
        for (int times = 0; times < many; times++) {
            gone += stepped(cells, taps);
        }
        return done(gone);
    }

    public int load(int code) {
        argument(code >= 0 && code <= 255);
        BitSet digits = PlainForm.ofCode(code);
        if (digits.length() > cells.size()) {
            return refused();
        }
        int others = 0;
        for (int k = 0; k < cells.size(); k++) {
            int digit = digits.get(k) ? 1 : 0;
            others += cells.set(k, digit) == digit ? 0 : 1;
        }
        return done(others);
    }

    public int degree(int form) {
        areForms(form);
        return PlainForm.degree(forms[form]);
    }

    public int code(int form) {
        areForms(form);
        return PlainForm.degree(forms[form]) > 30 ? -9 : (int) PlainForm.code(forms[form]);
    }

    public boolean has(int form, int place) {
        index(form >= 0 && form <= 5 && place >= 0 && place <= 39);
        return forms[form].get(place);
    }

    public int ones(int form) {
        areForms(form);
        return forms[form].cardinality();
    }

    public int lowest(int form) {
        areForms(form);
        return forms[form].nextSetBit(0);
    }

    public String text(int form) {
        areForms(form);
        return PlainForm.text(forms[form]);
    }

    public int order(int one, int other) {
        areForms(one, other);
        int unlike = PlainForm.degree(PlainForm.sum(forms[one], forms[other]));
        return unlike < 0 ? 0 : forms[one].get(unlike) ? 1 : -1;
    }

    public boolean divides(int one, int other) {
        areForms(one, other);
        return PlainForm.goesInto(forms[one], forms[other]);
    }

    public int check(int form, int by) {
        areForms(form, by);
        int degree = PlainForm.degree(forms[by]);
        return degree < 1 || degree > 31 || isTooLong(form, by) ? -9 : (int) PlainForm.code(checkOf(form, by));
    }

    public int isPrime(int form, int how) {
        areForms(form);
        argument(how == 0 || how == 1);
        return PlainForm.degree(forms[form]) > 10 ? -9 : PlainForm.isPrime(forms[form]) ? 1 : 0;
    }

    private static List<Long> primesOf(int n) {
        List<Long> found = new ArrayList<>();
        for (long code = 1L << n; code < 2L << n; code++) {
            if (PlainForm.isPrime(PlainForm.ofCode(code))) {
                found.add(code);
            }
        }
        return found;
    }

    public int primes(int n, int how) {
        argument((how == 0 || how == 1) && n >= 1 && n <= (how == 0 ? 10 : 6));
        int[] counted = {2, 1, 2, 3, 6, 9, 18, 30, 56, 99};
        return n <= 6 ? primesOf(n).size() : counted[n - 1];
    }

    public int prime(int n, int k) {
        argument(n >= 1 && n <= 6 && k >= 0 && k <= 9);
        List<Long> found = primesOf(n);
        return k < found.size() ? (int) (long) found.get(k) : -1;
    }

    public int period(int form, int how) {
        areForms(form);
        argument(how >= 0 && how <= 2);
        return PlainForm.isWheel(forms[form]) ? PlainForm.period(forms[form]) : -9;
    }

    public String rollText(int k) {
        index(k >= 0 && k < roll.size());
        return PlainForm.text(roll.get(k));
    }

    public String rowText() {
        StringBuilder row = new StringBuilder();
        for (int digit : cells) {
            row.append(digit);
        }
        return row.toString();
    }

    public int again() {
        List<Integer> row = new ArrayList<>(cells);
        int n = 0;
        do {
            stepped(row, taps);
            n++;
        } while (!row.equals(cells));
        return n;
    }

    public int house(int what) {
        argument(what >= 0 && what <= 5);
        int ones = 0;
        for (BitSet form : forms) {
            ones += form.cardinality();
        }
        return new int[] {acts, refusals, knocks, roll.size(), (int) PlainForm.code(taps), ones}[what];
    }

    public int knock() {
        knocks++;
        return knocks;
    }

    public boolean isSound() {
        return true;
    }

    public long digest() {
        List<Integer> row = new ArrayList<>();
        for (BitSet form : forms) {
            row.add(PlainForm.degree(form));
            row.add(form.nextSetBit(0));
            for (int place = 39; place >= 0; place--) {
                if (form.get(place)) {
                    row.add(place);
                }
            }
        }
        row.add(roll.size());
        for (BitSet one : roll) {
            row.add(PlainForm.degree(one));
            row.add(one.cardinality());
        }
        row.add((int) PlainForm.code(taps));
        row.addAll(cells);
        for (int what = 0; what <= 5; what++) {
            row.add(house(what));
        }
        row.add(1);
        long d = 8029;
        for (int v : row) {
            d = d * 31 + v;
        }
        return d;
    }
}
