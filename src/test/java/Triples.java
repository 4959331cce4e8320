import java.util.BitSet;
import java.util.function.BiFunction;
import java.util.function.BinaryOperator;

/** Acts that take two forms, and make a third one (or one of both) become something: every three of the six forms. */
final class Triples {
    private Triples() {
    }

    /** The answer is the degree of what form given[2] becomes, and no other form is another one then. */
    static void each(String what, BiFunction<Formwheel, int[], Integer> call, BinaryOperator<BitSet> due) {
        for (int[] given : all()) {
            BitSet want = due.apply(formOf(given[0]), formOf(given[1]));
            Expect.does(what + "(" + given[0] + ", " + given[1] + ", " + given[2] + ")", Triples::made,
                x -> call.apply(x, given), PlainForm.degree(want), "form " + given[2] + ": " + PlainForm.text(want));
        }
    }

    /** Six unlike forms, none of them empty, whose products by one another are all short enough. */
    static Formwheel made() {
        return Made.of(37, 6, 11, 4999, 1, 25);
    }

    static BitSet formOf(int form) {
        return PlainForm.ofCode(made().code(form));
    }

    static int[][] all() {
        int[][] all = new int[216][];
        for (int number = 0; number < all.length; number++) {
            all[number] = new int[] {number / 36, number / 6 % 6, number % 6};
        }
        return all;
    }
}
