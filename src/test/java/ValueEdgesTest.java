import java.util.NoSuchElementException;

/** The edges that promises 12 and 13 name. */
final class ValueEdgesTest {
    private static final int[] DISCRIMINANTS = {-3, -4, -23, -1271, -2000};
    private static final int[] SIZES = {1, 1, 3, 40, 20};

    public static void main(String[] args) {
        Check check = new Check("ValueEdgesTest");
        for (int i = 0; i < SIZES.length; i++) {
            classesThatAreNotThere(check, DISCRIMINANTS[i], SIZES[i]);
            numbersOutside(check, DISCRIMINANTS[i], SIZES[i] - 1);
            moduliOutside(check, DISCRIMINANTS[i], SIZES[i] - 1);
            zero(check, DISCRIMINANTS[i], SIZES[i]);
        }
        one(check);
        thousand(check);
        properlyOrNot(check);
        smallestModulus(check);
        largestModulus(check);
        largestAnswer(check);
        check.end();
    }

    private static FormDesk deskAt(int d) {
        FormDesk desk = new FormDesk();
        desk.discriminant(d);
        return desk;
    }

    /** Promises 12 and 13: "NoSuchElementException likewise", before the number is looked at. */
    private static void classesThatAreNotThere(Check check, int d, int size) {
        FormDesk desk = deskAt(d);
        int[] missing = {-1, size, 40, Integer.MIN_VALUE, Integer.MAX_VALUE};
        for (int k : missing) {
            String at = d + ", class " + k + ": ";
            check.refuses(at + "values", NoSuchElementException.class, () -> desk.values(k, 0, false));
            check.refuses(at + "values properly", NoSuchElementException.class, () -> desk.values(k, 1000, true));
            check.refuses(at + "prime", NoSuchElementException.class, () -> desk.prime(k, 1));
            check.refuses(at + "values, both wrong", NoSuchElementException.class, () -> desk.values(k, 1001, true));
            check.refuses(at + "prime, both wrong", NoSuchElementException.class, () -> desk.prime(k, 501));
        }
    }

    /** Promise 12: "IllegalArgumentException when n is not 0 .. 1000." */
    private static void numbersOutside(Check check, int d, int last) {
        FormDesk desk = deskAt(d);
        int[] outside = {-1, 1001, Integer.MIN_VALUE, Integer.MAX_VALUE};
        for (int n : outside) {
            String call = d + ": values(.., " + n + ", ..)";
            check.refuses(call, IllegalArgumentException.class, () -> desk.values(0, n, false));
            check.refuses(call, IllegalArgumentException.class, () -> desk.values(0, n, true));
            check.refuses(call, IllegalArgumentException.class, () -> desk.values(last, n, false));
        }
        check.is(d + ": 1000 is taken", desk.values(last, 1000, false) >= 0);
        check.is(d + ": 0 is taken", desk.values(last, 0, false) >= 0);
    }

    /** Promise 13: "m (1 .. 500). Throws likewise (for m)." */
    private static void moduliOutside(Check check, int d, int last) {
        FormDesk desk = deskAt(d);
        int[] outside = {0, -1, 501, Integer.MIN_VALUE, Integer.MAX_VALUE};
        for (int m : outside) {
            String call = d + ": prime(.., " + m + ")";
            check.refuses(call, IllegalArgumentException.class, () -> desk.prime(0, m));
            check.refuses(call, IllegalArgumentException.class, () -> desk.prime(last, m));
        }
        check.is(d + ": 500 is taken", desk.prime(last, 500) > 0);
        check.is(d + ": 1 is taken", desk.prime(last, 1) > 0);
    }

    /** Only (0, 0) has the value 0, and every number divides both of these. */
    private static void zero(Check check, int d, int size) {
        FormDesk desk = deskAt(d);
        for (int k = 0; k < size; k++) {
            int number = k;
            check.gives(d + ": values(" + k + ", 0, false)", 1, () -> desk.values(number, 0, false));
            check.gives(d + ": values(" + k + ", 0, true)", 0, () -> desk.values(number, 0, true));
        }
    }

    private static void one(Check check) {
        int[] pairs = {6, 4, 2, 2, 2};
        for (int i = 0; i < pairs.length; i++) {
            FormDesk desk = deskAt(DISCRIMINANTS[i]);
            check.gives(DISCRIMINANTS[i] + ": values(0, 1, false)", pairs[i], () -> desk.values(0, 1, false));
            check.gives(DISCRIMINANTS[i] + ": values(0, 1, true)", pairs[i], () -> desk.values(0, 1, true));
        }
        FormDesk full = deskAt(-1271);
        check.gives("-1271: values(39, 1, false)", 0, () -> full.values(39, 1, false));
        check.gives("-1271: values(39, 18, true)", 2, () -> full.values(39, 18, true));
        check.gives("-1271: values(39, 17, false)", 0, () -> full.values(39, 17, false));
    }

    private static void thousand(Check check) {
        FormDesk squares = deskAt(-4);
        check.gives("-4: values(0, 1000, false)", 16, () -> squares.values(0, 1000, false));
        check.gives("-4: values(0, 1000, true)", 0, () -> squares.values(0, 1000, true));
        check.gives("-4: values(0, 999, false)", 0, () -> squares.values(0, 999, false));
        FormDesk first = new FormDesk();
        check.gives("-3: values(0, 1000, false)", 0, () -> first.values(0, 1000, false));
        check.gives("-3: values(0, 997, true)", 12, () -> first.values(0, 997, true));
        FormDesk least = deskAt(-2000);
        check.gives("-2000: values(7, 1000, true)", 2, () -> least.values(7, 1000, true));
        check.gives("-2000: values(17, 1000, false)", 2, () -> least.values(17, 1000, false));
        check.gives("-2000: values(0, 1000, false)", 0, () -> least.values(0, 1000, false));
        FormDesk full = deskAt(-1271);
        check.gives("-1271: values(1, 1000, false)", 4, () -> full.values(1, 1000, false));
        check.gives("-1271: values(1, 1000, true)", 2, () -> full.values(1, 1000, true));
    }

    /** Terms: "PROPERLY, if no number above 1 divides x and y": (1, 0) is proper, (2, 0) is not. */
    private static void properlyOrNot(Check check) {
        FormDesk squares = deskAt(-4);
        check.gives("-4: values(0, 4, false)", 4, () -> squares.values(0, 4, false));
        check.gives("-4: values(0, 4, true)", 0, () -> squares.values(0, 4, true));
        check.gives("-4: values(0, 25, false)", 12, () -> squares.values(0, 25, false));
        check.gives("-4: values(0, 25, true)", 8, () -> squares.values(0, 25, true));
        FormDesk first = new FormDesk();
        check.gives("-3: values(0, 999, false)", 12, () -> first.values(0, 999, false));
        check.gives("-3: values(0, 999, true)", 0, () -> first.values(0, 999, true));
        FormDesk full = deskAt(-1271);
        check.gives("-1271: values(39, 72, false)", 4, () -> full.values(39, 72, false));
        check.gives("-1271: values(39, 72, true)", 2, () -> full.values(39, 72, true));
    }

    /** Nothing but 1 divides 1, so the least value above 0 is due: the first number of the form. */
    private static void smallestModulus(Check check) {
        for (int d : DISCRIMINANTS) {
            FormDesk desk = deskAt(d);
            check.gives(d + ": prime(0, 1)", 1, () -> desk.prime(0, 1));
            check.gives(d + ": prime(0, 2)", 1, () -> desk.prime(0, 2));
        }
        FormDesk full = deskAt(-1271);
        check.gives("-1271: prime(39, 1)", 18, () -> full.prime(39, 1));
        check.gives("-1271: prime(39, 2)", 25, () -> full.prime(39, 2));
        check.gives("-1271: prime(39, 3)", 20, () -> full.prime(39, 3));
    }

    private static void largestModulus(Check check) {
        check.gives("-3: prime(0, 500)", 1, () -> deskAt(-3).prime(0, 500));
        check.gives("-23: prime(2, 500)", 3, () -> deskAt(-23).prime(2, 500));
        check.gives("-23: prime(2, 499)", 2, () -> deskAt(-23).prime(2, 499));
        check.gives("-1271: prime(39, 500)", 51, () -> deskAt(-1271).prime(39, 500));
        check.gives("-1271: prime(39, 499)", 18, () -> deskAt(-1271).prime(39, 499));
        check.gives("-2000: prime(19, 500)", 29, () -> deskAt(-2000).prime(19, 500));
        check.gives("-1271: prime(39, 210)", 143, () -> deskAt(-1271).prime(39, 210));
    }

    /** No class of any discriminant has a larger answer for any m. */
    private static void largestAnswer(Check check) {
        FormDesk desk = deskAt(-1911);
        desk.reduce(3, 3, 160);
        check.gives("-1911: prime((3, 3, 160), 462)", 685, () -> desk.prime(desk.reduced(8), 462));
    }
}
