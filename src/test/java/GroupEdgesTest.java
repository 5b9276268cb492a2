import java.util.NoSuchElementException;

/** The edges that promises 6 to 11 name, in the smallest list, in full ones, and between them. */
final class GroupEdgesTest {
    private static final int[] DISCRIMINANTS = {-3, -23, -1439, -1271, -2000};
    private static final int[] SIZES = {1, 3, 39, 40, 20};

    public static void main(String[] args) {
        Check check = new Check("GroupEdgesTest");
        for (int i = 0; i < SIZES.length; i++) {
            classesThatAreNotThere(check, DISCRIMINANTS[i], SIZES[i]);
            theUnit(check, DISCRIMINANTS[i], SIZES[i]);
        }
        smallestGroup(check);
        lastClassOfTheLargestList(check);
        ownInverses(check);
        powers(check);
        powersAtTheEndsOfInt(check);
        orders(check);
        generaAndGenus(check);
        check.end();
    }

    private static FormDesk deskAt(int d) {
        FormDesk desk = new FormDesk();
        desk.discriminant(d);
        return desk;
    }

    /** Promises 6 to 10: "NoSuchElementException when one is not there", and likewise. */
    private static void classesThatAreNotThere(Check check, int d, int size) {
        FormDesk desk = deskAt(d);
        int[] missing = {-1, size, size + 1, 40, Integer.MIN_VALUE, Integer.MAX_VALUE};
        for (int k : missing) {
            String at = d + ", class " + k + ": ";
            check.refuses(at + "compose, first", NoSuchElementException.class, () -> desk.compose(k, size - 1));
            check.refuses(at + "compose, second", NoSuchElementException.class, () -> desk.compose(size - 1, k));
            check.refuses(at + "compose, both", NoSuchElementException.class, () -> desk.compose(k, k));
            check.refuses(at + "inverse", NoSuchElementException.class, () -> desk.inverse(k));
            check.refuses(at + "order", NoSuchElementException.class, () -> desk.order(k));
            check.refuses(at + "genus", NoSuchElementException.class, () -> desk.genus(k));
            int[] powers = {0, 1, -1, Integer.MIN_VALUE, Integer.MAX_VALUE};
            for (int n : powers) {
                check.refuses(at + "power " + n, NoSuchElementException.class, () -> desk.power(k, n));
            }
        }
        check.gives(d + ": the last class with 0", size - 1, () -> desk.compose(size - 1, 0));
        check.gives(d + ": 0 with the last class", size - 1, () -> desk.compose(0, size - 1));
        check.gives(d + ": the last class to the power 1", size - 1, () -> desk.power(size - 1, 1));
    }

    /** Terms: "0 is its unit", "(1 for 0)". */
    private static void theUnit(Check check, int d, int size) {
        FormDesk desk = deskAt(d);
        check.gives(d + ": compose(0, 0)", 0, () -> desk.compose(0, 0));
        check.gives(d + ": inverse(0)", 0, () -> desk.inverse(0));
        check.gives(d + ": order(0)", 1, () -> desk.order(0));
        check.gives(d + ": genus(0)", 0, () -> desk.genus(0));
        int[] powers = {0, 1, -1, 2, size, Integer.MAX_VALUE, Integer.MIN_VALUE};
        for (int n : powers) {
            check.gives(d + ": power(0, " + n + ")", 0, () -> desk.power(0, n));
        }
        for (int k = 0; k < size; k++) {
            int number = k;
            check.gives(d + ": power(" + k + ", 0)", 0, () -> desk.power(number, 0));
            check.gives(d + ": " + k + " with its inverse", 0, () -> desk.compose(number, desk.inverse(number)));
        }
    }

    private static void smallestGroup(Check check) {
        FormDesk desk = new FormDesk();
        check.gives("new: compose(0, 0)", 0, () -> desk.compose(0, 0));
        check.gives("new: genera()", 1, desk::genera);
        check.refuses("new: compose(0, 1)", NoSuchElementException.class, () -> desk.compose(0, 1));
        check.refuses("new: compose(1, 0)", NoSuchElementException.class, () -> desk.compose(1, 0));
    }

    private static void lastClassOfTheLargestList(Check check) {
        FormDesk desk = deskAt(-1271);
        check.gives("-1271: compose(39, 39)", 33, () -> desk.compose(39, 39));
        check.gives("-1271: compose(39, 38)", 0, () -> desk.compose(39, 38));
        check.gives("-1271: inverse(39)", 38, () -> desk.inverse(39));
        check.gives("-1271: order(39)", 5, () -> desk.order(39));
        check.gives("-1271: genus(39)", 0, () -> desk.genus(39));
        check.gives("-1271: power(39, 2147483647)", 33, () -> desk.power(39, Integer.MAX_VALUE));
        check.gives("-1271: power(39, -2147483648)", 33, () -> desk.power(39, Integer.MIN_VALUE));
    }

    /** Promise 7, where (a, -b, c) is not reduced or is the same: b is 0, b is a, a is c. */
    private static void ownInverses(Check check) {
        FormDesk four = deskAt(-84);
        for (int k = 0; k < 4; k++) {
            int number = k;
            check.gives("-84: inverse(" + k + ")", k, () -> four.inverse(number));
            check.gives("-84: compose(" + k + ", " + k + ")", 0, () -> four.compose(number, number));
        }
        FormDesk three = deskAt(-23);
        check.gives("-23: inverse(1)", 2, () -> three.inverse(1));
        check.gives("-23: inverse(2)", 1, () -> three.inverse(2));
        FormDesk full = deskAt(-1271);
        check.gives("-1271: inverse of (18, 5, 18)", 37, () -> full.inverse(37));
    }

    /** Promise 8: "(below 0: of its inverse)". Class 1 of -47 has the order 5. */
    private static void powers(Check check) {
        FormDesk desk = deskAt(-47);
        int[] due = {0, 1, 4, 3, 2, 0, 1, 4, 3, 2, 0};
        int[] dueBelow = {0, 2, 3, 4, 1, 0, 2, 3, 4, 1, 0};
        for (int n = 0; n < due.length; n++) {
            int times = n;
            check.gives("-47: power(1, " + n + ")", due[n], () -> desk.power(1, times));
            check.gives("-47: power(1, -" + n + ")", dueBelow[n], () -> desk.power(1, -times));
        }
    }

    private static void powersAtTheEndsOfInt(Check check) {
        FormDesk five = deskAt(-47);
        // 2147483647 is 2 more than a number that 5 divides, -2147483648 too.
        check.gives("-47: power(1, 2147483647)", 4, () -> five.power(1, Integer.MAX_VALUE));
        check.gives("-47: power(1, -2147483648)", 4, () -> five.power(1, Integer.MIN_VALUE));
        check.gives("-47: power(1, -2147483647)", 3, () -> five.power(1, -Integer.MAX_VALUE));
        FormDesk forty = deskAt(-1271);
        check.gives("-1271: power(1, 2147483647)", 20, () -> forty.power(1, Integer.MAX_VALUE));
        check.gives("-1271: power(1, -2147483648)", 38, () -> forty.power(1, Integer.MIN_VALUE));
        check.gives("-1271: power(1, 39)", 2, () -> forty.power(1, 39));
        check.gives("-1271: power(1, 40)", 0, () -> forty.power(1, 40));
        check.gives("-1271: power(1, 41)", 1, () -> forty.power(1, 41));
        check.gives("-1271: power(3, 40)", 0, () -> forty.power(3, 40));
        check.is("-1271: power(3, 20) is not 0", forty.power(3, 20) != 0);
    }

    /** Promise 9: from 1 to as many as there are classes. */
    private static void orders(Check check) {
        FormDesk full = deskAt(-1271);
        check.gives("-1271: order(0)", 1, () -> full.order(0));
        check.gives("-1271: order(37)", 2, () -> full.order(37));
        check.gives("-1271: order(1)", 20, () -> full.order(1));
        check.gives("-1271: order(3)", 40, () -> full.order(3));
        FormDesk odd = deskAt(-1999);
        check.gives("-1999: order(5)", 27, () -> odd.order(5));
        FormDesk two = deskAt(-15);
        check.gives("-15: order(1)", 2, () -> two.order(1));
    }

    /** Promises 10 and 11: all classes in one genus, each class in its own, and between these. */
    private static void generaAndGenus(Check check) {
        FormDesk one = deskAt(-1999);
        check.gives("-1999: genera()", 1, one::genera);
        check.gives("-1999: genus(26)", 0, () -> one.genus(26));
        FormDesk eight = deskAt(-1995);
        check.gives("-1995: genera()", 8, eight::genera);
        for (int k = 0; k < 8; k++) {
            int number = k;
            check.gives("-1995: genus(" + k + ")", k, () -> eight.genus(number));
        }
        FormDesk two = deskAt(-1271);
        check.gives("-1271: genera()", 2, two::genera);
        check.gives("-1271: genus(2)", 0, () -> two.genus(2));
        check.gives("-1271: genus(3)", 3, () -> two.genus(3));
        check.gives("-1271: genus(4)", 3, () -> two.genus(4));
        check.gives("-1271: genus(36)", 3, () -> two.genus(36));
        FormDesk least = deskAt(-2000);
        check.gives("-2000: genera()", 2, least::genera);
        check.gives("-2000: genus(19)", 0, () -> least.genus(19));
        check.gives("-2000: genus(17)", 1, () -> least.genus(17));
    }
}
