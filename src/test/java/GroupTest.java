import java.util.NoSuchElementException;

/** Promises 6 to 11, at every discriminant of the desk. */
final class GroupTest {
    private static final int[] POWERS = {
        0, 1, 2, 3, 7, 39, 40, 41, 1000003, Integer.MAX_VALUE, -1, -2, -39, -40, -1000003,
        Integer.MIN_VALUE, Integer.MIN_VALUE + 1
    };

    public static void main(String[] args) {
        Check check = new Check("GroupTest");
        for (int d = -3; d >= -2000; d--) {
            if (Model.isDiscriminant(d)) {
                Model model = new Model(d);
                if (model.size() <= 40) {
                    wholeGroup(check, model);
                    wrongClasses(check, model);
                }
            }
        }
        examples(check);
        check.end();
    }

    private static FormDesk deskAt(int d) {
        FormDesk desk = new FormDesk();
        desk.discriminant(d);
        return desk;
    }

    private static void wholeGroup(Check check, Model model) {
        String at = model.discriminant + ": ";
        check.same(at + "genera()", deskAt(model.discriminant).genera(), model.genera());
        for (int k = 0; k < model.size(); k++) {
            FormDesk desk = deskAt(model.discriminant);
            for (int j = 0; j < model.size(); j++) {
                check.same(at + "compose(" + j + ", " + k + ")", desk.compose(j, k), model.compose(j, k));
            }
            check.same(at + "inverse(" + k + ")", desk.inverse(k), model.inverse(k));
            check.same(at + "order(" + k + ")", desk.order(k), model.order(k));
            check.same(at + "genus(" + k + ")", desk.genus(k), model.genus(k));
            for (int n : POWERS) {
                check.same(at + "power(" + k + ", " + n + ")", desk.power(k, n), model.power(k, n));
            }
        }
    }

    private static void wrongClasses(Check check, Model model) {
        FormDesk desk = deskAt(model.discriminant);
        int[] wrong = {-1, model.size(), 40, Integer.MIN_VALUE, Integer.MAX_VALUE};
        for (int k : wrong) {
            String at = model.discriminant + ", class " + k + ": ";
            check.refuses(at + "compose, left", NoSuchElementException.class, () -> desk.compose(k, 0));
            check.refuses(at + "compose, right", NoSuchElementException.class, () -> desk.compose(0, k));
            check.refuses(at + "inverse", NoSuchElementException.class, () -> desk.inverse(k));
            check.refuses(at + "power", NoSuchElementException.class, () -> desk.power(k, 0));
            check.refuses(at + "order", NoSuchElementException.class, () -> desk.order(k));
            check.refuses(at + "genus", NoSuchElementException.class, () -> desk.genus(k));
        }
    }

    private static void examples(Check check) {
        FormDesk desk = deskAt(-47);
        // (4, 1, 3) turns into (3, -1, 4).
        check.same("(2, 1, 6) twice", desk.compose(1, 1), 4);
        check.same("(2, 1, 6) has order 5", desk.order(1), 5);
        check.same("0 has order 1", desk.order(0), 1);
        check.same("its power -1", desk.power(1, -1), 2);
        check.same("one genus", desk.genera(), 1);
        FormDesk four = deskAt(-84);
        check.same("four genera", four.genera(), 4);
        check.same("1 with 2", four.compose(1, 2), 3);
    }
}
