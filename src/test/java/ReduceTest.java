import java.util.NoSuchElementException;

/** Promises 4 and 5. */
final class ReduceTest {
    private static final int[] EDGES = {-20000, -19999, -3, -2, -1, 0, 1, 2, 3, 7, 9999, 10000, 19999, 20000};
    private static final int[] OUTSIDE = {-20001, 20001, Integer.MIN_VALUE, Integer.MAX_VALUE, 65536, -65536};

    public static void main(String[] args) {
        Check check = new Check("ReduceTest");
        smallForms(check);
        edgeForms(check);
        thrownForms(check);
        formsOutside(check);
        theClass(check);
        wrongWhat(check);
        check.end();
    }

    private static void smallForms(Check check) {
        for (int a = -2; a <= 12; a++) {
            for (int b = -30; b <= 30; b++) {
                for (int c = -2; c <= 12; c++) {
                    tryForm(check, a, b, c);
                }
            }
        }
    }

    private static void edgeForms(Check check) {
        for (int a : EDGES) {
            for (int b : EDGES) {
                for (int c : EDGES) {
                    tryForm(check, a, b, c);
                }
            }
        }
    }

    private static void thrownForms(Check check) {
        Dice dice = new Dice(1);
        for (int i = 0; i < 20000; i++) {
            int a = dice.from(1, 20000);
            int b = dice.from(-20000, 20000);
            // Near b * b / (4 * a) the discriminant is small, and the reduction long.
            int c = dice.oneIn(2) ? dice.from(1, 20000) : (int) Math.min(20000, (long) b * b / (4L * a) + dice.from(0, 9));
            tryForm(check, a, b, c);
        }
    }

    private static void tryForm(Check check, int a, int b, int c) {
        FormDesk desk = new FormDesk();
        desk.reduce(5, 7, 3);
        String call = "reduce(" + a + ", " + b + ", " + c + ")";
        int[] due = Model.reduction(5, 7, 3);
        if (Model.isForm(a, b, c)) {
            due = Model.reduction(a, b, c);
            check.same(call, desk.reduce(a, b, c), due[8]);
        } else {
            check.refuses(call, IllegalArgumentException.class, () -> desk.reduce(a, b, c));
        }
        for (int what = 0; what < 8; what++) {
            check.same(call + " reduced(" + what + ")", desk.reduced(what), due[what]);
        }
    }

    private static void formsOutside(Check check) {
        FormDesk desk = new FormDesk();
        for (int n : OUTSIDE) {
            check.refuses("reduce(" + n + ", 1, 1)", IllegalArgumentException.class, () -> desk.reduce(n, 1, 1));
            check.refuses("reduce(1, " + n + ", 1)", IllegalArgumentException.class, () -> desk.reduce(1, n, 1));
            check.refuses("reduce(1, 1, " + n + ")", IllegalArgumentException.class, () -> desk.reduce(1, 1, n));
        }
        check.refuses("reduced(0) after refusals", NoSuchElementException.class, () -> desk.reduced(0));
        check.refuses("reduced(8) after refusals", NoSuchElementException.class, () -> desk.reduced(8));
    }

    private static void theClass(Check check) {
        FormDesk desk = new FormDesk();
        check.same("reduce(3, 1, 2)", desk.reduce(3, 1, 2), 1);
        check.same("reduced(8) at -3", desk.reduced(8), FormDesk.NONE);
        desk.discriminant(-23);
        check.same("reduced(8) at -23", desk.reduced(8), 2);
        desk.discriminant(-47);
        check.same("reduced(8) at -47", desk.reduced(8), FormDesk.NONE);
        check.same("reduce(1, 1, 12)", desk.reduce(1, 1, 12), 0);
        check.same("reduced(8)", desk.reduced(8), 0);
        everyClassIsFound(check, -1271);
        everyClassIsFound(check, -2000);
    }

    private static void everyClassIsFound(Check check, int d) {
        FormDesk desk = new FormDesk();
        int size = desk.discriminant(d);
        for (int k = 0; k < size; k++) {
            int a = desk.form(k, 0);
            int b = desk.form(k, 1);
            int c = desk.form(k, 2);
            desk.reduce(a + b + c, b + 2 * c, c);
            check.same(d + ": class " + k + " is found", desk.reduced(8), k);
        }
    }

    private static void wrongWhat(Check check) {
        FormDesk desk = new FormDesk();
        desk.reduce(1, 1, 1);
        int[] wrong = {-1, 9, 10, Integer.MIN_VALUE, Integer.MAX_VALUE};
        for (int what : wrong) {
            check.refuses("reduced(" + what + ")", NoSuchElementException.class, () -> desk.reduced(what));
        }
    }
}
