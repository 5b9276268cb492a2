import java.util.NoSuchElementException;

/**
 * The edges that promises 1 to 3 name, and those of the desk's discriminants and of its list that
 * the terms name. Every number that is due here was worked out apart from the program.
 */
final class ListEdgesTest {
    private static final int[] JUST_TAKEN = {-3, -4, -7, -8, -11, -12, -15, -16, -1996, -1999, -2000};
    private static final int[] JUST_TAKEN_SIZES = {1, 1, 1, 1, 1, 1, 2, 1, 9, 27, 20};
    private static final int[] NOT_TAKEN = {
        // At and above 0, where 4 divides D or D - 1 as well.
        0, 1, 4, 5, 2000, -1, -2, 2, 3,
        // Between those that are taken.
        -5, -6, -9, -10, -13, -14, -1997, -1998,
        // Below -2000, where 4 divides D or D - 1 as well.
        -2003, -2004, -2007, -2008, -2001, -2002,
        // Far off: with wrap-around, some of these would look near.
        Integer.MIN_VALUE, Integer.MIN_VALUE + 1, Integer.MAX_VALUE, Integer.MAX_VALUE - 2, -65539, 65533
    };
    private static final int[] FAR_OFF = {-1, Integer.MIN_VALUE, Integer.MAX_VALUE};

    public static void main(String[] args) {
        Check check = new Check("ListEdgesTest");
        newObject(check);
        smallestAndLargestDiscriminant(check);
        discriminantsNotAsSaid(check);
        fortyClassesAndMore(check);
        tooManyClassesChangeNothing(check);
        reducedFormsAlone(check);
        orderOfTheList(check);
        classesThatAreThere(check);
        partsThatAreThere(check);
        shorterListHasNoRest(check);
        check.end();
    }

    /** Promise 1: "Discriminant -3, an empty word, no form reduced." */
    private static void newObject(Check check) {
        FormDesk desk = new FormDesk();
        for (int what = -1; what <= 9; what++) {
            int number = what;
            check.refuses("new: reduced(" + what + ")", NoSuchElementException.class, () -> desk.reduced(number));
        }
        check.gives("new: word()", 0, desk::word);
        sameList(check, desk, "new", new int[][] {{1, 1, 1}});
        check.gives("new: genera()", 1, desk::genera);
        desk.reduce(1, 1, 1);
        check.gives("new: the class of a form of discriminant -3", 0, () -> desk.reduced(8));
        desk.reduce(1, 0, 1);
        check.gives("new: the class of a form of discriminant -4", FormDesk.NONE, () -> desk.reduced(8));
        check.is("new: forty letters fit", Letters.putAll(desk, "A".repeat(40)));
        check.is("new: no letter more fits", !desk.put('A', 1));
    }

    /** Terms: "one of -3, -4, -7, -8, -11, -12, .. down to -2000". */
    private static void smallestAndLargestDiscriminant(Check check) {
        for (int i = 0; i < JUST_TAKEN.length; i++) {
            int d = JUST_TAKEN[i];
            FormDesk desk = new FormDesk();
            check.gives("discriminant(" + d + ")", JUST_TAKEN_SIZES[i], () -> desk.discriminant(d));
            check.gives("discriminant(" + d + ") again", JUST_TAKEN_SIZES[i], () -> desk.discriminant(d));
            int b = Math.abs(d % 2);
            desk.reduce(1, b, (b - d) / 4);
            check.gives("the first class of " + d, 0, () -> desk.reduced(8));
        }
        FormDesk least = new FormDesk();
        least.discriminant(-2000);
        sameForm(check, least, 0, new int[] {1, 0, 500});
        sameForm(check, least, 19, new int[] {24, -20, 25});
        check.refuses("-2000: form(20, 0)", NoSuchElementException.class, () -> least.form(20, 0));
    }

    /** Promise 2: "IllegalArgumentException, changing nothing, when it is not as said". */
    private static void discriminantsNotAsSaid(Check check) {
        for (int d : NOT_TAKEN) {
            FormDesk desk = new FormDesk();
            desk.discriminant(-23);
            check.refuses("discriminant(" + d + ")", IllegalArgumentException.class, () -> desk.discriminant(d));
            sameList(check, desk, "after discriminant(" + d + ")", new int[][] {{1, 1, 6}, {2, 1, 3}, {2, -1, 3}});
        }
    }

    /** Promise 2: "ArithmeticException [..] when there would be more than 40 classes." */
    private static void fortyClassesAndMore(Check check) {
        FormDesk desk = new FormDesk();
        check.gives("39 classes", 39, () -> desk.discriminant(-1439));
        sameForm(check, desk, 38, new int[] {19, -9, 20});
        check.gives("40 classes", 40, () -> desk.discriminant(-1271));
        sameForm(check, desk, 39, new int[] {18, -13, 20});
        check.gives("40 classes, the other list", 40, () -> desk.discriminant(-1839));
        sameForm(check, desk, 39, new int[] {22, -19, 25});
        int[] tooMany = {-1151, -1959, -1847, -1991};
        for (int d : tooMany) {
            check.refuses("more than 40: " + d, ArithmeticException.class, () -> desk.discriminant(d));
            sameForm(check, desk, 39, new int[] {22, -19, 25});
        }
        check.gives("40 classes again", 40, () -> desk.discriminant(-1271));
        sameForm(check, desk, 39, new int[] {18, -13, 20});
    }

    /** Promise 2: "ArithmeticException, changing nothing": 41 classes have as much room as 56 have. */
    private static void tooManyClassesChangeNothing(Check check) {
        FormDesk desk = new FormDesk();
        desk.reduce(288, 1, 1);
        check.gives("discriminant of that form", -1151, () -> desk.reduced(7));
        check.refuses("discriminant(-1151)", ArithmeticException.class, () -> desk.discriminant(-1151));
        check.gives("the desk is not at -1151", FormDesk.NONE, () -> desk.reduced(8));
        sameList(check, desk, "still at -3", new int[][] {{1, 1, 1}});
        check.gives("order(0)", 1, () -> desk.order(0));
        check.gives("genera()", 1, desk::genera);
        check.gives("values(0, 1, true)", 6, () -> desk.values(0, 1, true));
        check.refuses("discriminant(-1151) again", ArithmeticException.class, () -> desk.discriminant(-1151));
        check.gives("discriminant(-23) behind it", 3, () -> desk.discriminant(-23));
        sameList(check, desk, "at -23", new int[][] {{1, 1, 6}, {2, 1, 3}, {2, -1, 3}});
    }

    /** Terms: "|b| is at most a, a at most c, and b not below 0 when |b| is a, or a is c"; primitive. */
    private static void reducedFormsAlone(Check check) {
        sameListAt(check, -4, new int[][] {{1, 0, 1}});
        sameListAt(check, -12, new int[][] {{1, 0, 3}});
        sameListAt(check, -15, new int[][] {{1, 1, 4}, {2, 1, 2}});
        sameListAt(check, -16, new int[][] {{1, 0, 4}});
        sameListAt(check, -20, new int[][] {{1, 0, 5}, {2, 2, 3}});
        sameListAt(check, -27, new int[][] {{1, 1, 7}});
        sameListAt(check, -32, new int[][] {{1, 0, 8}, {3, 2, 3}});
        sameListAt(check, -44, new int[][] {{1, 0, 11}, {3, 2, 4}, {3, -2, 4}});
        sameListAt(check, -84, new int[][] {{1, 0, 21}, {2, 2, 11}, {3, 0, 7}, {5, 4, 5}});
        sameListAt(check, -163, new int[][] {{1, 1, 41}});
    }

    /** Terms: "by a, of these by |b|, and b before -b". */
    private static void orderOfTheList(Check check) {
        sameListAt(check, -143, new int[][] {
            {1, 1, 36}, {2, 1, 18}, {2, -1, 18}, {3, 1, 12}, {3, -1, 12}, {4, 1, 9}, {4, -1, 9},
            {6, 1, 6}, {6, 5, 7}, {6, -5, 7}
        });
    }

    /** Promise 3: "NoSuchElementException when there is no such class [..]." */
    private static void classesThatAreThere(Check check) {
        int[] discriminants = {-3, -15, -23, -1439, -1271, -2000};
        int[] sizes = {1, 2, 3, 39, 40, 20};
        for (int i = 0; i < sizes.length; i++) {
            FormDesk desk = new FormDesk();
            desk.discriminant(discriminants[i]);
            int size = sizes[i];
            check.gives(discriminants[i] + ": form(0, 0)", 1, () -> desk.form(0, 0));
            check.is(discriminants[i] + ": the last class is there", desk.form(size - 1, 0) > 0);
            for (int part = 0; part <= 2; part++) {
                int p = part;
                check.refuses("form(" + size + ", " + p + ")", NoSuchElementException.class, () -> desk.form(size, p));
                check.refuses("form(-1, " + p + ")", NoSuchElementException.class, () -> desk.form(-1, p));
            }
            for (int k : FAR_OFF) {
                check.refuses("form(" + k + ", 0)", NoSuchElementException.class, () -> desk.form(k, 0));
            }
        }
    }

    /** Promise 3: "NoSuchElementException when there is no such [..] part." */
    private static void partsThatAreThere(Check check) {
        FormDesk desk = new FormDesk();
        desk.discriminant(-23);
        sameForm(check, desk, 2, new int[] {2, -1, 3});
        check.refuses("form(2, 3)", NoSuchElementException.class, () -> desk.form(2, 3));
        for (int part : FAR_OFF) {
            check.refuses("form(2, " + part + ")", NoSuchElementException.class, () -> desk.form(2, part));
        }
        check.refuses("form(3, 3)", NoSuchElementException.class, () -> desk.form(3, 3));
        check.refuses("form(-1, -1)", NoSuchElementException.class, () -> desk.form(-1, -1));
    }

    private static void shorterListHasNoRest(Check check) {
        FormDesk desk = new FormDesk();
        desk.discriminant(-1271);
        desk.discriminant(-1839);
        for (int d = -3; d >= -4; d--) {
            desk.discriminant(d);
            check.refuses(d + " behind longer lists: form(1, 0)", NoSuchElementException.class, () -> desk.form(1, 0));
            check.refuses(d + " behind longer lists: order(39)", NoSuchElementException.class, () -> desk.order(39));
            check.gives(d + " behind longer lists: genera()", 1, desk::genera);
            check.gives(d + " behind longer lists: genus(0)", 0, () -> desk.genus(0));
        }
    }

    private static void sameListAt(Check check, int d, int[][] forms) {
        FormDesk desk = new FormDesk();
        check.gives("discriminant(" + d + ")", forms.length, () -> desk.discriminant(d));
        sameList(check, desk, "at " + d, forms);
    }

    private static void sameList(Check check, FormDesk desk, String at, int[][] forms) {
        for (int k = 0; k < forms.length; k++) {
            sameForm(check, desk, k, forms[k]);
        }
        check.refuses(at + ": no class more", NoSuchElementException.class, () -> desk.form(forms.length, 0));
    }

    private static void sameForm(Check check, FormDesk desk, int k, int[] form) {
        for (int part = 0; part < 3; part++) {
            int p = part;
            check.gives("form(" + k + ", " + part + ")", form[part], () -> desk.form(k, p));
        }
    }
}
