/**
 * Forms of digits 0 and 1, a roll of factors and a shift row with taps.
 *
 * <p>Everywhere in this file a form is held as a long: its bit k is the digit at the place k. So the
 * number is the code, the lesser form is the lesser number, and the sum of two is their exclusive or.
 */
public final class Formwheel {
    private static final int NONE = -1;
    private static final int REFUSED = -9;

    private static final int FORMS = 6;
    private static final int PLACES = 40;
    private static final int TOP_PLACE = 39;
    private static final int TOP_CODE = 2147483647;
    private static final int TOP_CODE_PLACE = 30;
    private static final int ROLL_LIMIT = 12;
    private static final int TOP_FACTOR_DEGREE = 10;
    private static final int TOP_COUNTED_DEGREE = 6;
    private static final int TOP_POWER_DEGREE = 20;
    private static final int TOP_CHECK_DEGREE = 31;
    private static final int TOP_WHEEL_DEGREE = 8;

    private static final long EMPTY = 0L;
    private static final long UNIT = 1L;
    private static final long X = 2L;
    private static final long EVEN_PLACES = 0x5555555555L;
    private static final long SOUND_PLACES = 0x1FFL;
    private static final long FIRST_TAPS = 3L;

    private static final long DIGEST_START = 8029L;
    private static final long DIGEST_FACTOR = 31L;

    // Bounds of loops that end by themselves long before: no run can need as many turns.
    private static final int EUCLID_TURNS = 1000;
    private static final int TRYING_TURNS = 10000;
    private static final int WHEEL_TURNS = 1000;

    private final long[] forms;
    private final Roll roll;
    private final ShiftRow row;
    private final Rows rows;
    private final Factors factors;
    private final Roll found;
    private final Roll foundOtherwise;
    private int acts;
    private int refusals;
    private int knocks;

    public Formwheel() {
        forms = new long[FORMS];
        roll = new Roll();
        row = new ShiftRow();
        rows = new Rows();
        factors = new Factors();
        found = new Roll();
        foundOtherwise = new Roll();
        acts = 0;
        refusals = 0;
        knocks = 0;
    }

    // ==== acts: FORMS

    public int set(int form, int code) throws IndexOutOfBoundsException, IllegalArgumentException {
        testForm(form);
        testRange(code, 0, TOP_CODE);
        int before = Digits.degreeOf(forms[form]);
        forms[form] = code;
        return done(before);
    }

    public int digit(int form, int place, int how) throws IndexOutOfBoundsException, IllegalArgumentException {
        testForm(form);
        testPlace(place);
        testRange(how, 0, 2);
        boolean wasOne = Digits.hasOne(forms[form], place);
        boolean becomesOne = how == 2 ? !wasOne : how == 1;
        if (wasOne == becomesOne) {
            return done(0);
        }
        forms[form] ^= UNIT << place;
        return done(1);
    }

    public int run(int form, int from, int to) throws IndexOutOfBoundsException, IllegalArgumentException {
        testForm(form);
        testRange(to, 0, PLACES);
        testRange(from, 0, to);
        forms[form] ^= (UNIT << to) - (UNIT << from);
        return done(Digits.onesOf(forms[form]));
    }

    public int copy(int form, int into) throws IndexOutOfBoundsException {
        testForm(form);
        testForm(into);
        return become(into, forms[form]);
    }

    public int swap(int form, int other) throws IndexOutOfBoundsException {
        testForm(form);
        testForm(other);
        long kept = forms[form];
        forms[form] = forms[other];
        forms[other] = kept;
        return done(forms[form] != kept ? 1 : 0);
    }

    public int shift(int form, int by) throws IndexOutOfBoundsException, IllegalArgumentException {
        testForm(form);
        testRange(by, -TOP_PLACE, TOP_PLACE);
        long shifted = forms[form];
        if (by < 0) {
            return become(form, shifted >> -by);
        }
        if (Digits.degreeOf(shifted) + by > TOP_PLACE) {
            return refuse();
        }
        return become(form, shifted << by);
    }

    public int turn(int form) throws IndexOutOfBoundsException {
        testForm(form);
        return become(form, Digits.turned(forms[form]));
    }

    public int slope(int form) throws IndexOutOfBoundsException {
        testForm(form);
        return become(form, forms[form] >> 1 & EVEN_PLACES);
    }

    public int add(int one, int other, int into) throws IndexOutOfBoundsException {
        testForms(one, other, into);
        return become(into, forms[one] ^ forms[other]);
    }

    public int multiply(int one, int other, int into) throws IndexOutOfBoundsException {
        testForms(one, other, into);
        if (!Digits.haveProduct(forms[one], forms[other])) {
            return refuse();
        }
        return become(into, Digits.multiplied(forms[one], forms[other]));
    }

    public int square(int form, int into) throws IndexOutOfBoundsException {
        testForm(form);
        testForm(into);
        if (2 * Digits.degreeOf(forms[form]) > TOP_PLACE) {
            return refuse();
        }
        return become(into, Digits.squared(forms[form]));
    }

    public int divide(int one, int by, int into) throws IndexOutOfBoundsException {
        testForms(one, by, into);
        if (forms[by] == EMPTY) {
            return refuse();
        }
        return become(into, Digits.quotient(forms[one], forms[by]));
    }

    public int remain(int one, int by, int into) throws IndexOutOfBoundsException {
        testForms(one, by, into);
        if (forms[by] == EMPTY) {
            return refuse();
        }
        return become(into, Digits.rest(forms[one], forms[by]));
    }

    public int common(int one, int other, int into) throws IndexOutOfBoundsException {
        testForms(one, other, into);
        return become(into, Digits.greatestBoth(forms[one], forms[other]));
    }

    public int multipliers(int one, int other, int into, int next)
            throws IndexOutOfBoundsException, IllegalArgumentException {
        testForms(one, other, into);
        testForm(next);
        if (into == next) {
            throw new IllegalArgumentException("both multipliers would go into the same form");
        }
        rows.workOut(forms[one], forms[other]);
        forms[into] = rows.ofOne;
        forms[next] = rows.ofOther;
        return done(Digits.degreeOf(rows.first));
    }

    public int power(int form, int many, int by, int into)
            throws IndexOutOfBoundsException, IllegalArgumentException {
        testForms(form, by, into);
        testRange(many, 0, 255);
        if (forms[by] == EMPTY || Digits.degreeOf(forms[by]) > TOP_POWER_DEGREE) {
            return refuse();
        }
        return become(into, Digits.powerRest(forms[form], many, forms[by]));
    }

    public int allPrimes(int n, int into) throws IndexOutOfBoundsException, IllegalArgumentException {
        testForm(into);
        testRange(n, 1, 5);
        return become(into, Primes.productOfAll(n));
    }

    public int seal(int form, int by, int into) throws IndexOutOfBoundsException {
        testForms(form, by, into);
        if (Digits.degreeOf(forms[by]) < 1 || !canBeSealed(form, by)) {
            return refuse();
        }
        long rest = Digits.checkOf(forms[form], forms[by]);
        forms[into] = forms[form] << Digits.degreeOf(forms[by]) ^ rest;
        return done(Digits.onesOf(rest));
    }

    public int burst(int form, int place, int code) throws IndexOutOfBoundsException, IllegalArgumentException {
        testForm(form);
        testPlace(place);
        testRange(code, 0, 4095);
        if (Digits.degreeOf(code) + place > TOP_PLACE) {
            return refuse();
        }
        forms[form] ^= (long) code << place;
        return done(Digits.onesOf(forms[form]));
    }

    // ==== acts: the ROLL

    public int factor(int form, int how) throws IndexOutOfBoundsException, IllegalArgumentException {
        testForm(form);
        testRange(how, 0, 1);
        if (!isBetween(Digits.degreeOf(forms[form]), 1, TOP_FACTOR_DEGREE)) {
            return refuse();
        }
        if (how == 0) {
            factors.findByTrying(forms[form], roll);
        } else {
            factors.findByDegrees(forms[form], roll);
            roll.arrange(true);
        }
        return done(roll.size);
    }

    public int enroll(int form) throws IndexOutOfBoundsException {
        testForm(form);
        if (roll.size >= ROLL_LIMIT) {
            return refuse();
        }
        roll.append(forms[form]);
        return done(roll.size);
    }

    public int strike(int k) throws IndexOutOfBoundsException {
        testRolled(k);
        long struck = roll.at(k);
        roll.removeAt(k);
        return done(Digits.degreeOf(struck));
    }

    public int clear() {
        int before = roll.size;
        roll.removeAll();
        return done(before);
    }

    public int sort(boolean isFalling) {
        return done(roll.arrange(isFalling));
    }

    public int turnAll() {
        return done(roll.turnEach());
    }

    public int take(int k, int into) throws IndexOutOfBoundsException {
        testRolled(k);
        testForm(into);
        return become(into, roll.at(k));
    }

    public int product(int into) throws IndexOutOfBoundsException {
        testForm(into);
        if (!roll.hasEmpty() && roll.degreesTogether() > TOP_PLACE) {
            return refuse();
        }
        return become(into, roll.multipliedAll());
    }

    // ==== acts: the SHIFT ROW

    public int start(int form) throws IndexOutOfBoundsException {
        testForm(form);
        if (!Wheels.isWheel(forms[form])) {
            return refuse();
        }
        row.beginAnew(forms[form]);
        return done(Digits.degreeOf(row.taps));
    }

    public int step(int many) throws IllegalArgumentException {
        testRange(many, 0, 255);
        return done(row.goOn(many));
    }

    public int load(int code) throws IllegalArgumentException {
        testRange(code, 0, 255);
        if (Digits.degreeOf(code) >= Digits.degreeOf(row.taps)) {
            return refuse();
        }
        int others = Digits.onesOf(row.cells ^ code);
        row.cells = code;
        return done(others);
    }

    // ==== what is asked of FORMS

    public int degree(int form) throws IndexOutOfBoundsException {
        testForm(form);
        return Digits.degreeOf(forms[form]);
    }

    public int code(int form) throws IndexOutOfBoundsException {
        testForm(form);
        return Digits.degreeOf(forms[form]) > TOP_CODE_PLACE ? REFUSED : (int) forms[form];
    }

    public boolean has(int form, int place) throws IndexOutOfBoundsException {
        testForm(form);
        testPlace(place);
        return Digits.hasOne(forms[form], place);
    }

    public int ones(int form) throws IndexOutOfBoundsException {
        testForm(form);
        return Digits.onesOf(forms[form]);
    }

    public int lowest(int form) throws IndexOutOfBoundsException {
        testForm(form);
        return Digits.lowestOf(forms[form]);
    }

    public String text(int form) throws IndexOutOfBoundsException {
        testForm(form);
        return Digits.textOf(forms[form]);
    }

    public int order(int one, int other) throws IndexOutOfBoundsException {
        testForm(one);
        testForm(other);
        if (forms[one] == forms[other]) {
            return 0;
        }
        return forms[one] < forms[other] ? -1 : 1;
    }

    public boolean divides(int one, int other) throws IndexOutOfBoundsException {
        testForm(one);
        testForm(other);
        return Digits.goesInto(forms[one], forms[other]);
    }

    public int check(int form, int by) throws IndexOutOfBoundsException {
        testForm(form);
        testForm(by);
        if (!isBetween(Digits.degreeOf(forms[by]), 1, TOP_CHECK_DEGREE) || !canBeSealed(form, by)) {
            return REFUSED;
        }
        return (int) Digits.checkOf(forms[form], forms[by]);
    }

    // ==== what is asked of PRIMES, of the ROLL, of WHEELS

    public int isPrime(int form, int how) throws IndexOutOfBoundsException, IllegalArgumentException {
        testForm(form);
        testRange(how, 0, 1);
        if (Digits.degreeOf(forms[form]) > TOP_FACTOR_DEGREE) {
            return REFUSED;
        }
        boolean isOne = how == 0 ? Primes.isByTrying(forms[form]) : Primes.isByRising(forms[form]);
        return isOne ? 1 : 0;
    }

    public int primes(int n, int how) throws IllegalArgumentException {
        testRange(how, 0, 1);
        testRange(n, 1, how == 0 ? TOP_FACTOR_DEGREE : TOP_COUNTED_DEGREE);
        return how == 0 ? Primes.howManyBySum(n) : Primes.howManyByCounting(n);
    }

    public int prime(int n, int k) throws IllegalArgumentException {
        testRange(n, 1, TOP_COUNTED_DEGREE);
        testRange(k, 0, 9);
        return Primes.codeOf(n, k);
    }

    public int period(int form, int how) throws IndexOutOfBoundsException, IllegalArgumentException {
        testForm(form);
        testRange(how, 0, 2);
        if (!Wheels.isWheel(forms[form])) {
            return REFUSED;
        }
        if (how == 0) {
            return Wheels.periodByMultiplying(forms[form]);
        }
        return how == 1 ? Wheels.periodBySteps(forms[form]) : periodByFactors(forms[form]);
    }

    public String rollText(int k) throws IndexOutOfBoundsException {
        testRolled(k);
        return Digits.textOf(roll.at(k));
    }

    public String rowText() {
        return row.cellDigits();
    }

    public int again() {
        return ShiftRow.stepsTillSame(row.cells, row.taps);
    }

    // ==== the whole

    public int house(int what) throws IllegalArgumentException {
        testRange(what, 0, 5);
        switch (what) {
            case 0:
                return acts;
            case 1:
                return refusals;
            case 2:
                return knocks;
            case 3:
                return roll.size;
            case 4:
                return (int) row.taps;
            default:
                return onesOfAll();
        }
    }

    public int knock() {
        knocks++;
        return knocks;
    }

    public boolean isSound() {
        long a = forms[0] & SOUND_PLACES;
        long b = forms[1] & SOUND_PLACES;
        if (!isProductSound(a, b) || !isCommonSound(a, b) || !Wheels.isWheel(row.taps)) {
            return false;
        }
        if (Digits.degreeOf(a) < 1) {
            return true;
        }
        factors.findByTrying(a, found);
        factors.findByDegrees(a, foundOtherwise);
        foundOtherwise.arrange(false);
        if (!found.isSameAs(foundOtherwise) || found.multipliedAll() != a) {
            return false;
        }
        return !Wheels.isWheel(a) || Wheels.periodByMultiplying(a) == periodByFactors(a);
    }

    public long digest() {
        long d = DIGEST_START;
        for (int form = 0; form < FORMS; form++) {
            d = digestOfForm(d, forms[form]);
        }
        d = mixed(d, roll.size);
        for (int k = 0; k < roll.size; k++) {
            d = mixed(d, Digits.degreeOf(roll.at(k)));
            d = mixed(d, Digits.onesOf(roll.at(k)));
        }
        d = mixed(d, row.taps);
        int cells = Digits.degreeOf(row.taps);
        for (int cell = 0; cell < cells; cell++) {
            d = mixed(d, Digits.hasOne(row.cells, cell) ? 1 : 0);
        }
        for (int what = 0; what <= 5; what++) {
            d = mixed(d, house(what));
        }
        return mixed(d, isSound() ? 1 : 0);
    }

    // ==== what the methods above share

    private static boolean isBetween(int number, int least, int most) {
        return number >= least && number <= most;
    }

    private static void testForm(int form) {
        if (!isBetween(form, 0, FORMS - 1)) {
            throw new IndexOutOfBoundsException("a form has a number from 0 to 5");
        }
    }

    private static void testForms(int one, int other, int into) {
        testForm(one);
        testForm(other);
        testForm(into);
    }

    private static void testPlace(int place) {
        if (!isBetween(place, 0, TOP_PLACE)) {
            throw new IndexOutOfBoundsException("a place is from 0 to 39");
        }
    }

    private void testRolled(int k) {
        if (!isBetween(k, 0, roll.size - 1)) {
            throw new IndexOutOfBoundsException("the roll has none with that number");
        }
    }

    private static void testRange(int number, int least, int most) {
        if (!isBetween(number, least, most)) {
            throw new IllegalArgumentException("a number is out of its range");
        }
    }

    private int done(int answer) {
        acts++;
        return answer;
    }

    private int refuse() {
        refusals++;
        return REFUSED;
    }

    private int become(int into, long digits) {
        forms[into] = digits;
        return done(Digits.degreeOf(digits));
    }

    private boolean canBeSealed(int form, int by) {
        return Digits.degreeOf(forms[form]) + Digits.degreeOf(forms[by]) <= TOP_PLACE;
    }

    private int onesOfAll() {
        int sum = 0;
        for (int form = 0; form < FORMS; form++) {
            sum += Digits.onesOf(forms[form]);
        }
        return sum;
    }

    private int periodByFactors(long wheel) {
        factors.findByTrying(wheel, found);
        return Wheels.periodByFactors(found);
    }

    private boolean isProductSound(long a, long b) {
        long both = Digits.multiplied(a, b);
        if (both != Digits.multiplied(b, a) || Digits.multiplied(a, a) != Digits.squared(a)) {
            return false;
        }
        return b == EMPTY || Digits.quotient(both, b) == a && Digits.rest(both, b) == EMPTY;
    }

    private boolean isCommonSound(long a, long b) {
        long both = Digits.greatestBoth(a, b);
        rows.workOut(a, b);
        long sum = Digits.multiplied(a, rows.ofOne) ^ Digits.multiplied(b, rows.ofOther);
        return Digits.goesInto(both, a) && Digits.goesInto(both, b) && sum == both;
    }

    private static long mixed(long d, long v) {
        return d * DIGEST_FACTOR + v;
    }

    private static long digestOfForm(long before, long form) {
        long d = mixed(mixed(before, Digits.degreeOf(form)), Digits.lowestOf(form));
        for (int place = Digits.degreeOf(form); place >= 0; place--) {
            if (Digits.hasOne(form, place)) {
                d = mixed(d, place);
            }
        }
        return d;
    }

    /** What is told of forms by their digits alone. */
    private static final class Digits {
        private Digits() {
        }

        static int degreeOf(long form) {
            long filled = form;
            filled |= filled >>> 1;
            filled |= filled >>> 2;
            filled |= filled >>> 4;
            filled |= filled >>> 8;
            filled |= filled >>> 16;
            filled |= filled >>> 32;
            return Long.bitCount(filled) - 1;
        }

        static int onesOf(long form) {
            return Long.bitCount(form);
        }

        static int lowestOf(long form) {
            return form == EMPTY ? NONE : degreeOf(form & -form);
        }

        static boolean hasOne(long form, int place) {
            return (form >> place & 1) == 1;
        }

        static long turned(long form) {
            long turned = EMPTY;
            int degree = degreeOf(form);
            for (int place = 0; place <= degree; place++) {
                turned = turned << 1 | form >> place & 1;
            }
            return turned;
        }

        static boolean haveProduct(long one, long other) {
            return one == EMPTY || other == EMPTY || degreeOf(one) + degreeOf(other) <= TOP_PLACE;
        }

        static long multiplied(long one, long other) {
            long sum = EMPTY;
            for (int place = degreeOf(other); place >= 0; place--) {
                if (hasOne(other, place)) {
                    sum ^= one << place;
                }
            }
            return sum;
        }

        static long squared(long form) {
            long spread = EMPTY;
            for (int place = degreeOf(form); place >= 0; place--) {
                spread = spread << 2 | form >> place & 1;
            }
            return spread;
        }

        static long quotient(long form, long by) {
            if (by == EMPTY) {
                return EMPTY;
            }
            int byDegree = degreeOf(by);
            long left = form;
            long quotient = EMPTY;
            for (int up = degreeOf(form) - byDegree; up >= 0; up--) {
                if (hasOne(left, up + byDegree)) {
                    left ^= by << up;
                    quotient |= UNIT << up;
                }
            }
            return quotient;
        }

        /** The rest; by the empty form, which is no divisor, all of the form is left. */
        static long rest(long form, long by) {
            if (by == EMPTY) {
                return form;
            }
            int byDegree = degreeOf(by);
            long left = form;
            for (int up = degreeOf(form) - byDegree; up >= 0; up--) {
                if (hasOne(left, up + byDegree)) {
                    left ^= by << up;
                }
            }
            return left;
        }

        static boolean goesInto(long one, long other) {
            return rest(other, one) == EMPTY;
        }

        static long greatestBoth(long one, long other) {
            long first = one;
            long second = other;
            for (int turn = 0; turn < EUCLID_TURNS && second != EMPTY; turn++) {
                long left = rest(first, second);
                first = second;
                second = left;
            }
            return first;
        }

        /** The rest of X risen n times. */
        static long risenRest(int n, long by) {
            long risen = rest(X, by);
            for (int times = 0; times < n; times++) {
                risen = rest(squared(risen), by);
            }
            return risen;
        }

        /** The rest of a product of many; each rest is taken at once, so that no product grows too long. */
        static long powerRest(long form, int many, long by) {
            long base = rest(form, by);
            long power = rest(UNIT, by);
            for (int bit = 7; bit >= 0; bit--) {
                power = rest(squared(power), by);
                if ((many >> bit & 1) == 1) {
                    power = rest(multiplied(power, base), by);
                }
            }
            return power;
        }

        /** The sum of the rests of the unit shifted by j, squared 0 to d - 1 times. */
        static long trace(int j, int d, long by) {
            long squared = rest(UNIT << j, by);
            long sum = squared;
            for (int times = 1; times < d; times++) {
                squared = rest(squared(squared), by);
                sum ^= squared;
            }
            return sum;
        }

        static long checkOf(long form, long by) {
            return rest(form << degreeOf(by), by);
        }

        static String textOf(long form) {
            StringBuilder text = new StringBuilder();
            for (int place = degreeOf(form); place >= 0; place--) {
                if (hasOne(form, place)) {
                    if (text.length() > 0) {
                        text.append(' ');
                    }
                    text.append(place);
                }
            }
            return text.toString();
        }
    }

    /** The two rows by which the multipliers are found; made once and used again. */
    private static final class Rows {
        private long first;
        private long ofOne;
        private long ofOther;
        private long second;
        private long secondOfOne;
        private long secondOfOther;

        void workOut(long one, long other) {
            first = one;
            ofOne = UNIT;
            ofOther = EMPTY;
            second = other;
            secondOfOne = EMPTY;
            secondOfOther = UNIT;
            for (int turn = 0; turn < EUCLID_TURNS && second != EMPTY; turn++) {
                goOn(Digits.quotient(first, second));
            }
        }

        private void goOn(long q) {
            long next = first ^ Digits.multiplied(q, second);
            long nextOfOne = ofOne ^ Digits.multiplied(q, secondOfOne);
            long nextOfOther = ofOther ^ Digits.multiplied(q, secondOfOther);
            first = second;
            ofOne = secondOfOne;
            ofOther = secondOfOther;
            second = next;
            secondOfOne = nextOfOne;
            secondOfOther = nextOfOther;
        }
    }

    /** A row of at most 12 forms. */
    private static final class Roll {
        private final long[] held;
        private final long[] before;
        private int size;

        Roll() {
            held = new long[ROLL_LIMIT];
            before = new long[ROLL_LIMIT];
            size = 0;
        }

        long at(int k) {
            return k < 0 || k >= size ? EMPTY : held[k];
        }

        void put(int k, long form) {
            if (k >= 0 && k < size) {
                held[k] = form;
            }
        }

        void append(long form) {
            if (size < ROLL_LIMIT) {
                held[size] = form;
                size++;
            }
        }

        void removeAt(int k) {
            if (k < 0 || k >= size) {
                return;
            }
            for (int behind = k + 1; behind < size; behind++) {
                held[behind - 1] = held[behind];
            }
            size--;
        }

        void removeAll() {
            size = 0;
        }

        /** Puts them in a row; tells at how many numbers another one stands then. */
        int arrange(boolean isFalling) {
            System.arraycopy(held, 0, before, 0, ROLL_LIMIT);
            for (int k = 1; k < size; k++) {
                long moved = held[k];
                int to = k;
                while (to > 0 && (isFalling ? held[to - 1] < moved : held[to - 1] > moved)) {
                    held[to] = held[to - 1];
                    to--;
                }
                held[to] = moved;
            }
            return howManyOthers();
        }

        /** Turns each one; tells how many are other ones then. */
        int turnEach() {
            System.arraycopy(held, 0, before, 0, ROLL_LIMIT);
            for (int k = 0; k < size; k++) {
                held[k] = Digits.turned(held[k]);
            }
            return howManyOthers();
        }

        private int howManyOthers() {
            int others = 0;
            for (int k = 0; k < size; k++) {
                if (held[k] != before[k]) {
                    others++;
                }
            }
            return others;
        }

        boolean hasEmpty() {
            for (int k = 0; k < size; k++) {
                if (held[k] == EMPTY) {
                    return true;
                }
            }
            return false;
        }

        int degreesTogether() {
            int sum = 0;
            for (int k = 0; k < size; k++) {
                sum += Digits.degreeOf(held[k]);
            }
            return sum;
        }

        /** Behind an empty one the rest could grow too long, so it is looked for first. */
        long multipliedAll() {
            if (hasEmpty()) {
                return EMPTY;
            }
            long product = UNIT;
            for (int k = 0; k < size; k++) {
                product = Digits.multiplied(product, held[k]);
            }
            return product;
        }

        boolean isSameAs(Roll other) {
            if (size != other.size) {
                return false;
            }
            for (int k = 0; k < size; k++) {
                if (held[k] != other.held[k]) {
                    return false;
                }
            }
            return true;
        }
    }

    /** Looks for the factors of forms of a degree from 1 to 10. */
    private static final class Factors {
        private final Roll parts;

        Factors() {
            parts = new Roll();
        }

        /** The least one first. */
        void findByTrying(long form, Roll into) {
            into.removeAll();
            long left = form;
            long tried = X;
            for (int turn = 0; turn < TRYING_TURNS && Digits.degreeOf(left) > 0; turn++) {
                // Without a factor of at most half its degree, what is left is prime itself.
                if (2 * Digits.degreeOf(tried) > Digits.degreeOf(left)) {
                    tried = left;
                }
                if (Digits.goesInto(tried, left)) {
                    into.append(tried);
                    left = Digits.quotient(left, tried);
                } else {
                    tried++;
                }
            }
        }

        /** Those of a lesser degree first. */
        void findByDegrees(long form, Roll into) {
            into.removeAll();
            long left = form;
            for (int d = 1; d <= TOP_FACTOR_DEGREE && Digits.degreeOf(left) > 0; d++) {
                long unlike = Digits.greatestBoth(left, Digits.risenRest(d, left) ^ X);
                partByTraces(unlike, d);
                for (int k = 0; k < parts.size; k++) {
                    left = dividedOut(left, parts.at(k), into);
                }
            }
        }

        /**
         * Parts a product of unlike primes of degree d. The sums of the shifted units below its degree are all
         * its rests, and some rest has unlike traces by any two of the primes: so one of those units has, too.
         */
        private void partByTraces(long unlike, int d) {
            parts.removeAll();
            int degree = Digits.degreeOf(unlike);
            if (degree < d) {
                return;
            }
            parts.append(unlike);
            for (int j = 0; j < degree; j++) {
                int before = parts.size;
                for (int k = 0; k < before; k++) {
                    long part = parts.at(k);
                    long both = Digits.greatestBoth(part, Digits.trace(j, d, part));
                    if (both != UNIT && both != part) {
                        parts.put(k, both);
                        parts.append(Digits.quotient(part, both));
                    }
                }
            }
        }

        private static long dividedOut(long form, long prime, Roll into) {
            long left = form;
            for (int times = 0; times < TOP_FACTOR_DEGREE && Digits.goesInto(prime, left); times++) {
                into.append(prime);
                left = Digits.quotient(left, prime);
            }
            return left;
        }
    }

    /** What is told of primes, and how many there are. */
    private static final class Primes {
        private Primes() {
        }

        static boolean isByTrying(long form) {
            int degree = Digits.degreeOf(form);
            if (degree < 1) {
                return false;
            }
            // A form that is no prime has a divisor of at most half its degree.
            long end = X << degree / 2;
            for (long tried = X; tried < end; tried++) {
                if (Digits.goesInto(tried, form)) {
                    return false;
                }
            }
            return true;
        }

        static boolean isByRising(long form) {
            int degree = Digits.degreeOf(form);
            if (degree < 1 || !Digits.goesInto(form, Digits.risenRest(degree, form) ^ X)) {
                return false;
            }
            for (int q = 2; q <= degree; q++) {
                if (degree % q == 0 && isPrimeNumber(q)) {
                    if (Digits.greatestBoth(form, Digits.risenRest(degree / q, form) ^ X) != UNIT) {
                        return false;
                    }
                }
            }
            return true;
        }

        private static boolean isPrimeNumber(int q) {
            for (int by = 2; by < q; by++) {
                if (q % by == 0) {
                    return false;
                }
            }
            return q >= 2;
        }

        static int howManyBySum(int n) {
            if (n < 1) {
                return 0;
            }
            int sum = 0;
            for (int d = 1; d <= n; d++) {
                if (n % d == 0) {
                    sum += markOf(d) * (1 << n / d);
                }
            }
            return sum / n;
        }

        /** What the document calls m(d). */
        private static int markOf(int d) {
            int mark = 1;
            for (int q = 2; q <= d; q++) {
                if (d % (q * q) == 0) {
                    return 0;
                }
                if (d % q == 0 && isPrimeNumber(q)) {
                    mark = -mark;
                }
            }
            return mark;
        }

        static int howManyByCounting(int n) {
            int count = 0;
            for (long form = UNIT << n; form < X << n; form++) {
                if (isByTrying(form)) {
                    count++;
                }
            }
            return count;
        }

        static int codeOf(int n, int k) {
            int lesser = 0;
            for (int form = 1 << n; form < 2 << n; form++) {
                if (isByTrying(form)) {
                    if (lesser == k) {
                        return form;
                    }
                    lesser++;
                }
            }
            return NONE;
        }

        static long productOfAll(int n) {
            long product = UNIT;
            for (int d = 1; d <= n; d++) {
                if (n % d == 0) {
                    product = Digits.multiplied(product, productOfDegree(d));
                }
            }
            return product;
        }

        private static long productOfDegree(int d) {
            long product = UNIT;
            for (long form = UNIT << d; form < X << d; form++) {
                if (isByTrying(form)) {
                    product = Digits.multiplied(product, form);
                }
            }
            return product;
        }
    }

    /** What is told of wheels. */
    private static final class Wheels {
        private Wheels() {
        }

        static boolean isWheel(long form) {
            return isBetween(Digits.degreeOf(form), 1, TOP_WHEEL_DEGREE) && Digits.hasOne(form, 0);
        }

        static int periodByMultiplying(long wheel) {
            long risen = UNIT;
            for (int n = 1; n < WHEEL_TURNS; n++) {
                risen = Digits.rest(risen << 1, wheel);
                if (risen == UNIT) {
                    return n;
                }
            }
            return NONE;
        }

        static int periodBySteps(long wheel) {
            return ShiftRow.stepsTillSame(ShiftRow.cellsBegun(wheel), wheel);
        }

        /** Like ones stand side by side in the roll of a wheel's factors. */
        static int periodByFactors(Roll factors) {
            int multiple = 1;
            int most = 0;
            int same = 0;
            for (int k = 0; k < factors.size; k++) {
                boolean isNew = k == 0 || factors.at(k) != factors.at(k - 1);
                same = isNew ? 1 : same + 1;
                most = Math.max(most, same);
                if (isNew) {
                    multiple = leastMultiple(multiple, periodByMultiplying(factors.at(k)));
                }
            }
            return multiple * leastPowerOfTwo(most);
        }

        private static int leastMultiple(int one, int other) {
            int first = one;
            int second = other;
            for (int turn = 0; turn < EUCLID_TURNS && second != 0; turn++) {
                int left = first % second;
                first = second;
                second = left;
            }
            return first == 0 ? 0 : one / first * other;
        }

        private static int leastPowerOfTwo(int least) {
            int power = 1;
            for (int times = 0; times < TOP_FACTOR_DEGREE && power < least; times++) {
                power *= 2;
            }
            return power;
        }
    }

    /** The taps and the cells; the cell k is held at the place k. */
    private static final class ShiftRow {
        private long taps;
        private long cells;

        ShiftRow() {
            taps = FIRST_TAPS;
            cells = UNIT;
        }

        void beginAnew(long newTaps) {
            taps = newTaps;
            cells = cellsBegun(newTaps);
        }

        static long cellsBegun(long taps) {
            return UNIT << Digits.degreeOf(taps) - 1;
        }

        static long stepped(long cells, long taps) {
            // No cell stands at the degree of the taps, so its 1 takes no part here.
            long added = Digits.onesOf(cells & taps) & 1;
            return cells >> 1 | added << Digits.degreeOf(taps) - 1;
        }

        /** So many steps; tells how many of the digits that went were 1. */
        int goOn(int many) {
            int gone = 0;
            for (int times = 0; times < many; times++) {
                gone += (int) (cells & 1);
                cells = stepped(cells, taps);
            }
            return gone;
        }

        static int stepsTillSame(long cells, long taps) {
            long now = cells;
            for (int n = 1; n < WHEEL_TURNS; n++) {
                now = stepped(now, taps);
                if (now == cells) {
                    return n;
                }
            }
            return NONE;
        }

        String cellDigits() {
            StringBuilder text = new StringBuilder();
            int size = Digits.degreeOf(taps);
            for (int cell = 0; cell < size; cell++) {
                text.append(Digits.hasOne(cells, cell) ? '1' : '0');
            }
            return text.toString();
        }
    }
}
