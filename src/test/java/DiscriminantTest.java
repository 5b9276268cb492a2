import java.util.NoSuchElementException;

/** Promises 2 and 3. */
final class DiscriminantTest {
    private static final int[] FAR_OFF = {
        Integer.MIN_VALUE, Integer.MIN_VALUE + 1, Integer.MAX_VALUE, Integer.MAX_VALUE - 3, -100000, 100000
    };

    public static void main(String[] args) {
        Check check = new Check("DiscriminantTest");
        for (int d = -2100; d <= 100; d++) {
            tryDiscriminant(check, d);
        }
        for (int d : FAR_OFF) {
            tryDiscriminant(check, d);
        }
        exampleLists(check);
        onlyTheDiscriminantChanges(check);
        check.end();
    }

    private static void tryDiscriminant(Check check, int d) {
        FormDesk desk = new FormDesk();
        desk.discriminant(-23);
        Model model = Model.isDiscriminant(d) ? new Model(d) : null;
        String call = "discriminant(" + d + ")";
        if (model == null) {
            check.refuses(call, IllegalArgumentException.class, () -> desk.discriminant(d));
            model = new Model(-23);
        } else if (model.size() > 40) {
            check.refuses(call, ArithmeticException.class, () -> desk.discriminant(d));
            model = new Model(-23);
        } else {
            check.same(call, desk.discriminant(d), model.size());
        }
        sameForms(check, call, desk, model);
    }

    private static void sameForms(Check check, String call, FormDesk desk, Model model) {
        for (int k = 0; k < model.size(); k++) {
            for (int part = 0; part < 3; part++) {
                check.same(call + " form(" + k + ", " + part + ")", desk.form(k, part), model.forms.get(k)[part]);
            }
        }
        int[] wrong = {-1, model.size(), 40, 41, Integer.MIN_VALUE, Integer.MAX_VALUE};
        for (int k : wrong) {
            check.refuses(call + " form(" + k + ", 0)", NoSuchElementException.class, () -> desk.form(k, 0));
        }
        int[] wrongParts = {-1, 3, Integer.MIN_VALUE, Integer.MAX_VALUE};
        for (int part : wrongParts) {
            check.refuses(call + " form(0, " + part + ")", NoSuchElementException.class, () -> desk.form(0, part));
        }
    }

    private static void exampleLists(Check check) {
        // Written out by hand: only primitive forms, and b before -b.
        sameList(check, -12, new int[][] {{1, 0, 3}});
        sameList(check, -23, new int[][] {{1, 1, 6}, {2, 1, 3}, {2, -1, 3}});
        sameList(check, -47, new int[][] {{1, 1, 12}, {2, 1, 6}, {2, -1, 6}, {3, 1, 4}, {3, -1, 4}});
        sameList(check, -84, new int[][] {{1, 0, 21}, {2, 2, 11}, {3, 0, 7}, {5, 4, 5}});
        FormDesk desk = new FormDesk();
        check.same("discriminant(-1271)", desk.discriminant(-1271), 40);
        check.refuses("discriminant(-1151)", ArithmeticException.class, () -> desk.discriminant(-1151));
        check.same("form(39, 0) after the refusal", desk.form(39, 0), new Model(-1271).forms.get(39)[0]);
    }

    private static void sameList(Check check, int d, int[][] forms) {
        FormDesk desk = new FormDesk();
        check.same("discriminant(" + d + ")", desk.discriminant(d), forms.length);
        for (int k = 0; k < forms.length; k++) {
            for (int part = 0; part < 3; part++) {
                check.same(d + ": form(" + k + ", " + part + ")", desk.form(k, part), forms[k][part]);
            }
        }
    }

    private static void onlyTheDiscriminantChanges(Check check) {
        FormDesk desk = new FormDesk();
        desk.discriminant(-23);
        desk.put('B', 1);
        desk.reduce(3, -1, 2);
        check.same("discriminant(-47)", desk.discriminant(-47), 5);
        check.same("word() stays", desk.word(), 1);
        check.same("reduced(0) stays", desk.reduced(0), 2);
        check.refuses("discriminant(-1)", IllegalArgumentException.class, () -> desk.discriminant(-1));
        check.refuses("discriminant(-1991)", ArithmeticException.class, () -> desk.discriminant(-1991));
        check.same("word() after refusals", desk.word(), 1);
        check.same("reduced(7) after refusals", desk.reduced(7), -23);
        check.same("order(1) after refusals", desk.order(1), 5);
    }
}
