import java.util.NoSuchElementException;

/** Promises 12 and 13. */
final class ValuesTest {
    private static final int[] WRONG_NUMBERS = {-1, 1001, Integer.MIN_VALUE, Integer.MAX_VALUE};
    private static final int[] WRONG_MODULI = {0, -1, 501, Integer.MIN_VALUE, Integer.MAX_VALUE};

    public static void main(String[] args) {
        Check check = new Check("ValuesTest");
        for (int d = -3; d >= -2000; d--) {
            if (Model.isDiscriminant(d) && (d > -130 || d % 37 == 0 || d < -1975 || d == -1911)) {
                Model model = new Model(d);
                for (int k = 0; k < model.size() && model.size() <= 40; k++) {
                    allNumbers(check, model, k, false);
                    allNumbers(check, model, k, true);
                    allModuli(check, model, k);
                }
            }
        }
        examples(check);
        wrongInputs(check);
        check.end();
    }

    private static FormDesk deskAt(int d) {
        FormDesk desk = new FormDesk();
        desk.discriminant(d);
        return desk;
    }

    private static void allNumbers(Check check, Model model, int k, boolean properly) {
        int[] due = model.pairs(k, properly);
        FormDesk desk = deskAt(model.discriminant);
        for (int n = 0; n <= 1000; n++) {
            if (n % 400 == 0) {
                desk = deskAt(model.discriminant);
            }
            check.same(model.discriminant + ": values(" + k + ", " + n + ", " + properly + ")",
                desk.values(k, n, properly), due[n]);
        }
    }

    private static void allModuli(Check check, Model model, int k) {
        int[] pairs = model.pairs(k, true);
        FormDesk desk = deskAt(model.discriminant);
        for (int m = 1; m <= 500; m++) {
            int due = 1;
            while (pairs[due] == 0 || Model.gcd(due, m) != 1) {
                due++;
            }
            check.same(model.discriminant + ": prime(" + k + ", " + m + ")", desk.prime(k, m), due);
        }
    }

    private static void examples(Check check) {
        FormDesk desk = deskAt(-4);
        check.same("x * x + y * y = 0", desk.values(0, 0, false), 1);
        check.same("x * x + y * y = 0, properly", desk.values(0, 0, true), 0);
        check.same("x * x + y * y = 25", desk.values(0, 25, false), 12);
        check.same("x * x + y * y = 25, properly", desk.values(0, 25, true), 8);
        check.same("x * x + y * y = 1000", desk.values(0, 1000, false), 16);
        check.same("no divisor in common with 1", desk.prime(0, 1), 1);
        FormDesk far = deskAt(-1911);
        far.reduce(3, 3, 160);
        check.same("the largest least number of all", far.prime(far.reduced(8), 462), 685);
    }

    private static void wrongInputs(Check check) {
        FormDesk desk = deskAt(-23);
        int[] wrong = {-1, 3, 40, Integer.MIN_VALUE, Integer.MAX_VALUE};
        for (int k : wrong) {
            check.refuses("values, class " + k, NoSuchElementException.class, () -> desk.values(k, 1, true));
            check.refuses("prime, class " + k, NoSuchElementException.class, () -> desk.prime(k, 1));
            // Both wrong: the document tells of the class first.
            check.refuses("values, both, " + k, NoSuchElementException.class, () -> desk.values(k, -1, true));
            check.refuses("prime, both, " + k, NoSuchElementException.class, () -> desk.prime(k, 0));
        }
        for (int n : WRONG_NUMBERS) {
            check.refuses("values of " + n, IllegalArgumentException.class, () -> desk.values(2, n, false));
        }
        for (int m : WRONG_MODULI) {
            check.refuses("prime to " + m, IllegalArgumentException.class, () -> desk.prime(2, m));
        }
    }
}
