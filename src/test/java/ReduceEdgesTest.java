import java.util.NoSuchElementException;

/** The edges that promises 4 and 5 name, and those of the steps of a reduction that the terms name. */
final class ReduceEdgesTest {
    private static final int[] IDENTITY = {1, 0, 0, 1};
    private static final int[] TURN = {0, -1, 1, 0};

    public static void main(String[] args) {
        Check check = new Check("ReduceEdgesTest");
        numbersStillTaken(check);
        numbersTooSmallOrTooLarge(check);
        noFormAsSaid(check);
        wrapAroundIsNoForm(check);
        noStepAtAll(check);
        oneStep(check);
        moreSteps(check);
        longestReduction(check);
        partsThatAreThere(check);
        nothingReducedYet(check);
        theNextReductionReplacesAll(check);
        refusedFormChangesNothing(check);
        classOrNone(check);
        lastClassOfTheLargestList(check);
        check.end();
    }

    /** Promise 4: "a number is not -20000 .. 20000": the last numbers that are still taken. */
    private static void numbersStillTaken(Check check) {
        sameReduction(check, new int[] {20000, 0, 1}, 1, new int[] {1, 0, 20000}, TURN);
        sameReduction(check, new int[] {20000, 20000, 5001}, 4, new int[] {4, 4, 5001}, null);
        sameReduction(check, new int[] {20000, -20000, 5001}, 5, new int[] {4, 4, 5001}, null);
        sameReduction(check, new int[] {5001, 20000, 20000}, 2, new int[] {4, 4, 5001}, null);
        sameReduction(check, new int[] {5001, -20000, 20000}, 3, new int[] {4, 4, 5001}, null);
        sameReduction(check, new int[] {1, 0, 20000}, 0, new int[] {1, 0, 20000}, IDENTITY);
        sameReduction(check, new int[] {20000, 1, 20000}, 0, new int[] {20000, 1, 20000}, IDENTITY);
        sameReduction(check, new int[] {20000, -1, 20000}, 1, new int[] {20000, 1, 20000}, TURN);
        sameReduction(check, new int[] {1, 0, 1}, 0, new int[] {1, 0, 1}, IDENTITY);
        FormDesk desk = new FormDesk();
        desk.reduce(20000, 1, 20000);
        check.gives("the least discriminant of all", -1599999999, () -> desk.reduced(7));
        // -20000 is a number as said for each place, but makes no form for the first and the third.
        refused(check, -20000, 1, 20000);
        refused(check, 20000, 1, -20000);
        refused(check, -20000, 1, -20000);
    }

    /** Promise 4: "when a number is not -20000 .. 20000"; but for that, each of these is a form. */
    private static void numbersTooSmallOrTooLarge(Check check) {
        refused(check, 20001, 0, 1);
        refused(check, 20001, 1, 20000);
        refused(check, 20000, 20001, 20000);
        refused(check, 20000, -20001, 20000);
        refused(check, 1, 0, 20001);
        refused(check, 20000, 1, 20001);
        refused(check, -20001, 1, 1);
        refused(check, 1, 1, -20001);
        int[] farOff = {Integer.MIN_VALUE, Integer.MIN_VALUE + 1, Integer.MAX_VALUE};
        for (int n : farOff) {
            refused(check, n, 1, 1);
            refused(check, 1, n, 1);
            refused(check, 1, 1, n);
            refused(check, n, n, n);
        }
    }

    /** Promise 4: "or it is no form as said": discriminant below 0, a above 0, primitive. */
    private static void noFormAsSaid(Check check) {
        refused(check, 1, 2, 1);
        refused(check, 1, 3, 2);
        refused(check, 1, 3, 1);
        refused(check, 1, -2, 1);
        refused(check, 1, 0, 0);
        refused(check, 1, 0, -1);
        refused(check, 20000, 20000, 5000);
        refused(check, 0, 0, 0);
        refused(check, 0, 1, 1);
        refused(check, 0, 0, 1);
        refused(check, -1, 0, -1);
        refused(check, -1, 1, -1);
        refused(check, -2, 1, -3);
        refused(check, 2, 2, 2);
        refused(check, 2, 0, 2);
        refused(check, 3, 0, 6);
        refused(check, 3, 3, 3);
        refused(check, 19997, 0, 19997);
        refused(check, 20000, 20000, 20000);
        sameReduction(check, new int[] {2, 2, 3}, 0, new int[] {2, 2, 3}, IDENTITY);
        sameReduction(check, new int[] {3, 0, 7}, 0, new int[] {3, 0, 7}, IDENTITY);
        // Each two of the three have a common divisor, all three have none.
        sameReduction(check, new int[] {6, 10, 15}, 1, new int[] {6, -2, 11}, new int[] {1, -1, 0, 1});
        sameReduction(check, new int[] {1, 1, 1}, 0, new int[] {1, 1, 1}, IDENTITY);
    }

    /** With int arithmetic, the discriminants of these would look as if they were below 0. */
    private static void wrapAroundIsNoForm(Check check) {
        refused(check, 1, 65536, 1);
        refused(check, 1, -65536, 1);
        refused(check, 1, 1 << 30, 1);
        refused(check, 20000, 20000, -20000);
        refused(check, 20000, -20000, -20000);
        refused(check, 65537, 1, -65537);
        refused(check, 1, 50000, 1);
    }

    /** Terms: a form that is reduced takes no step, at each edge of what reduced means. */
    private static void noStepAtAll(Check check) {
        int[][] reduced = {
            {1, 0, 1}, {1, 1, 1}, {2, 1, 2}, {2, 2, 3}, {2, 1, 3}, {2, -1, 3}, {3, -2, 4}, {3, 2, 3}, {5, 4, 5}
        };
        for (int[] form : reduced) {
            sameReduction(check, form, 0, form, IDENTITY);
        }
    }

    /** Terms: "if |b| is above a, or b is -a: SHIFT by the k with -a < b + 2 * a * k <= a"; otherwise TURN. */
    private static void oneStep(Check check) {
        sameReduction(check, new int[] {2, -2, 3}, 1, new int[] {2, 2, 3}, new int[] {1, 1, 0, 1});
        sameReduction(check, new int[] {1, -1, 1}, 1, new int[] {1, 1, 1}, new int[] {1, 1, 0, 1});
        sameReduction(check, new int[] {2, -1, 2}, 1, new int[] {2, 1, 2}, TURN);
        sameReduction(check, new int[] {3, 1, 2}, 1, new int[] {2, -1, 3}, TURN);
        sameReduction(check, new int[] {1, 2, 2}, 1, new int[] {1, 0, 1}, new int[] {1, -1, 0, 1});
        sameReduction(check, new int[] {1, -2, 2}, 1, new int[] {1, 0, 1}, new int[] {1, 1, 0, 1});
        // The middle number goes to a, never to -a.
        sameReduction(check, new int[] {1, 3, 3}, 1, new int[] {1, 1, 1}, new int[] {1, -1, 0, 1});
        sameReduction(check, new int[] {1, -3, 3}, 1, new int[] {1, 1, 1}, new int[] {1, 2, 0, 1});
        sameReduction(check, new int[] {2, 6, 7}, 1, new int[] {2, 2, 3}, new int[] {1, -1, 0, 1});
        sameReduction(check, new int[] {1, 282, 19882}, 1, new int[] {1, 0, 1}, new int[] {1, -141, 0, 1});
        sameReduction(check, new int[] {1, -282, 19882}, 1, new int[] {1, 0, 1}, new int[] {1, 141, 0, 1});
    }

    private static void moreSteps(Check check) {
        // |b| is a + 1: a shift comes first.
        sameReduction(check, new int[] {2, 3, 2}, 2, new int[] {1, 1, 2}, new int[] {-1, -1, 1, 0});
        // b is a: a turn comes first; b is -a: a shift does.
        sameReduction(check, new int[] {3, 3, 1}, 2, new int[] {1, 1, 1}, new int[] {0, -1, 1, 2});
        sameReduction(check, new int[] {3, -3, 1}, 3, new int[] {1, 1, 1}, new int[] {1, 1, 1, 2});
        sameReduction(check, new int[] {2, 5, 4}, 3, new int[] {1, 1, 2}, new int[] {-1, -2, 1, 1});
    }

    /** A search from -3 down to -59 has found no form that is taken and needs more than 13 steps. */
    private static void longestReduction(Check check) {
        sameReduction(check, new int[] {16441, 19288, 5657}, 13, new int[] {1, 0, 1}, null);
        sameReduction(check, new int[] {16441, -19288, 5657}, 13, new int[] {1, 0, 1}, null);
        sameReduction(check, new int[] {16033, 18781, 5500}, 13, null, null);
    }

    /** Promise 5: "0 to 2 the reduced one, 3 to 6 the matrix, 7 its discriminant; 8 its class". */
    private static void partsThatAreThere(Check check) {
        FormDesk desk = new FormDesk();
        desk.discriminant(-83);
        desk.reduce(31, 45, 17);
        int[] due = {3, -1, 7, -1, 2, 1, -3, -83, 2};
        for (int what = 0; what <= 8; what++) {
            int number = what;
            check.gives("reduced(" + what + ")", due[what], () -> desk.reduced(number));
        }
        int[] wrong = {-1, 9, Integer.MIN_VALUE, Integer.MAX_VALUE};
        for (int what : wrong) {
            check.refuses("reduced(" + what + ")", NoSuchElementException.class, () -> desk.reduced(what));
        }
    }

    /** Promise 5: "NoSuchElementException [..] when there was none." */
    private static void nothingReducedYet(Check check) {
        FormDesk desk = new FormDesk();
        noneWasReduced(check, "new", desk);
        check.refuses("reduce(1, 2, 1)", IllegalArgumentException.class, () -> desk.reduce(1, 2, 1));
        check.refuses("reduce(20001, 0, 1)", IllegalArgumentException.class, () -> desk.reduce(20001, 0, 1));
        noneWasReduced(check, "behind refused forms", desk);
        desk.discriminant(-23);
        desk.compose(1, 2);
        desk.order(1);
        desk.genus(2);
        noneWasReduced(check, "behind compositions", desk);
        desk.reduce(1, 1, 1);
        check.gives("reduced(0) then", 1, () -> desk.reduced(0));
    }

    private static void noneWasReduced(Check check, String at, FormDesk desk) {
        for (int what = -1; what <= 9; what++) {
            int number = what;
            check.refuses(at + ": reduced(" + what + ")", NoSuchElementException.class, () -> desk.reduced(number));
        }
    }

    /** Promise 5: "Of the form that was reduced last", all of it. */
    private static void theNextReductionReplacesAll(Check check) {
        FormDesk desk = new FormDesk();
        desk.reduce(16441, 19288, 5657);
        check.gives("a form without steps", 0, () -> desk.reduce(2, 1, 3));
        sameLast(check, "(2, 1, 3)", desk, new int[] {2, 1, 3, 1, 0, 0, 1, -23});
        desk.discriminant(-47);
        desk.compose(1, 3);
        desk.power(1, 4);
        sameLast(check, "(2, 1, 3) behind compositions", desk, new int[] {2, 1, 3, 1, 0, 0, 1, -23});
    }

    /** Promise 4: "IllegalArgumentException, changing nothing". */
    private static void refusedFormChangesNothing(Check check) {
        FormDesk desk = new FormDesk();
        desk.reduce(31, 45, 17);
        int[][] wrong = {{20001, 0, 1}, {20000, -20001, 20000}, {1, 0, 20001}, {1, 2, 1}, {0, 1, 1}, {-1, 0, -1}, {2, 2, 4}};
        for (int[] form : wrong) {
            check.refuses("a wrong form", IllegalArgumentException.class, () -> desk.reduce(form[0], form[1], form[2]));
            sameLast(check, "(31, 45, 17)", desk, new int[] {3, -1, 7, -1, 2, 1, -3, -83});
        }
    }

    /** Promise 5: "8 its class (NONE, if it is not of this discriminant)". */
    private static void classOrNone(Check check) {
        FormDesk desk = new FormDesk();
        desk.discriminant(-23);
        desk.reduce(3, 1, 2);
        check.gives("the form's class at -23", 2, () -> desk.reduced(8));
        int[] others = {-3, -20, -24, -19, -27, -2000};
        for (int d : others) {
            desk.discriminant(d);
            check.gives("its class at " + d, FormDesk.NONE, () -> desk.reduced(8));
        }
        desk.discriminant(-23);
        check.gives("its class at -23 again", 2, () -> desk.reduced(8));
        // Of discriminant -92, which is 4 times that of the desk; the first two numbers are a class's.
        desk.reduce(1, 0, 23);
        check.gives("a form of discriminant -92", FormDesk.NONE, () -> desk.reduced(8));
        desk.reduce(2, 1, 4);
        check.gives("a form of discriminant -31", FormDesk.NONE, () -> desk.reduced(8));
        desk.reduce(20000, 1, 20000);
        check.gives("a form far below -2000", FormDesk.NONE, () -> desk.reduced(8));
    }

    private static void lastClassOfTheLargestList(Check check) {
        FormDesk desk = new FormDesk();
        desk.discriminant(-1271);
        desk.reduce(20, 13, 18);
        check.gives("(20, 13, 18)", 39, () -> desk.reduced(8));
        desk.reduce(20, -13, 18);
        check.gives("(20, -13, 18)", 38, () -> desk.reduced(8));
        desk.reduce(1, -1, 318);
        check.gives("(1, -1, 318)", 0, () -> desk.reduced(8));
        check.refuses("discriminant(-1151)", ArithmeticException.class, () -> desk.discriminant(-1151));
        check.gives("its class behind a refused discriminant", 0, () -> desk.reduced(8));
    }

    private static void refused(Check check, int a, int b, int c) {
        String call = "reduce(" + a + ", " + b + ", " + c + ")";
        FormDesk desk = new FormDesk();
        check.refuses(call, IllegalArgumentException.class, () -> desk.reduce(a, b, c));
        check.refuses("reduced(0) behind " + call, NoSuchElementException.class, () -> desk.reduced(0));
    }

    /** The form reduced and the matrix, where they are given, and how the matrix and the forms must agree. */
    private static void sameReduction(Check check, int[] form, int steps, int[] reduced, int[] matrix) {
        FormDesk desk = new FormDesk();
        String call = "reduce(" + form[0] + ", " + form[1] + ", " + form[2] + ")";
        check.gives(call, steps, () -> desk.reduce(form[0], form[1], form[2]));
        int[] made = Model.transformed(form, parts(desk, 3, 4));
        int[] shown = parts(desk, 0, 3);
        int[] m = parts(desk, 3, 4);
        check.is(call + ": the matrix makes the reduced form", java.util.Arrays.equals(made, shown));
        check.same(call + ": p * s - q * r", m[0] * m[3] - m[1] * m[2], 1);
        check.is(call + ": is reduced", Model.isReduced(shown[0], shown[1], shown[2]));
        check.is(call + ": the reduced form", reduced == null || java.util.Arrays.equals(reduced, shown));
        check.is(call + ": the matrix", matrix == null || java.util.Arrays.equals(matrix, m));
        check.gives(call + ": reduced(7)", form[1] * form[1] - 4 * form[0] * form[2], () -> desk.reduced(7));
    }

    private static int[] parts(FormDesk desk, int from, int count) {
        int[] found = new int[count];
        for (int i = 0; i < count; i++) {
            found[i] = desk.reduced(from + i);
        }
        return found;
    }

    private static void sameLast(Check check, String at, FormDesk desk, int[] due) {
        for (int what = 0; what < due.length; what++) {
            int number = what;
            check.gives(at + ": reduced(" + what + ")", due[what], () -> desk.reduced(number));
        }
    }
}
