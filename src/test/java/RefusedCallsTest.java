import java.util.ArrayList;
import java.util.List;
import java.util.function.Consumer;
import java.util.function.ToIntFunction;

/**
 * A refused call changes nothing that a later call shows, and a question neither: of two desks with
 * the same calls behind them one gets such a call too, and then both must show the same.
 */
final class RefusedCallsTest {
    private static final String BAD_ARGUMENT = "IllegalArgumentException";
    private static final String TOO_MANY = "ArithmeticException";
    private static final String NO_ELEMENT = "NoSuchElementException";
    private static final String FALSE = "0";

    private record Try(String name, String due, ToIntFunction<FormDesk> call) {
    }

    private record State(String name, int size, boolean anyReduced, int letters, Consumer<FormDesk> calls) {
    }

    public static void main(String[] args) {
        Check check = new Check("RefusedCallsTest");
        for (State state : states()) {
            for (Try refused : refusedIn(state)) {
                tryOne(check, state, refused);
            }
            for (Try question : questionsIn(state)) {
                tryOne(check, state, question);
            }
        }
        check.end();
    }

    private static List<State> states() {
        return List.of(
            new State("new", 1, false, 0, desk -> { }),
            new State("full", 40, true, 40, desk -> {
                desk.discriminant(-1271);
                desk.reduce(20, 13, 18);
                Letters.putAll(desk, "BcD2".repeat(10));
            }),
            new State("shrunk, with a missing class", 1, true, 39, desk -> {
                desk.discriminant(-1839);
                desk.discriminant(-1271);
                desk.discriminant(-3);
                desk.reduce(16441, 19288, 5657);
                Letters.putAll(desk, "Z".repeat(39));
            }),
            new State("with a broken word", 3, true, 37, desk -> {
                desk.discriminant(-23);
                desk.reduce(288, 1, 1);
                Letters.putAll(desk, "((b)2" + "B".repeat(32));
            }),
            new State("cleared", 20, false, 0, desk -> {
                desk.discriminant(-2000);
                Letters.putAll(desk, "B".repeat(40));
                desk.clear();
            }));
    }

    private static FormDesk deskIn(State state) {
        FormDesk desk = new FormDesk();
        state.calls().accept(desk);
        return desk;
    }

    private static void tryOne(Check check, State state, Try one) {
        FormDesk plain = deskIn(state);
        FormDesk tried = deskIn(state);
        String at = state.name() + ": " + one.name();
        for (int i = 0; i < 2; i++) {
            String got = Check.outcome(() -> one.call().applyAsInt(tried));
            check.is(at + " gives " + one.due() + ", it gave " + got, one.due() == null || got.equals(one.due()));
        }
        String due = Shown.by(plain);
        String shown = Shown.by(tried);
        check.is(at + " changes nothing: " + shown + " instead of " + due, shown.equals(due));
    }

    private static List<Try> refusedIn(State state) {
        List<Try> all = new ArrayList<>();
        refusedDiscriminants(all);
        refusedForms(all);
        refusedReductions(all, state);
        for (int k : new int[] {-1, state.size(), 40, Integer.MIN_VALUE, Integer.MAX_VALUE}) {
            refusedClass(all, k);
        }
        refusedNumbers(all, state);
        refusedLetters(all, state);
        return all;
    }

    private static void refusedDiscriminants(List<Try> all) {
        for (int d : new int[] {0, 1, -1, -2, -5, -2001, -2003, -2004, Integer.MIN_VALUE, Integer.MAX_VALUE}) {
            all.add(new Try("discriminant(" + d + ")", BAD_ARGUMENT, desk -> desk.discriminant(d)));
        }
        for (int d : new int[] {-1151, -1959, -1847, -1991}) {
            all.add(new Try("discriminant(" + d + ")", TOO_MANY, desk -> desk.discriminant(d)));
        }
    }

    private static void refusedForms(List<Try> all) {
        int[][] wrong = {
            {20001, 0, 1}, {-20001, 0, 1}, {20000, 20001, 20000}, {20000, -20001, 20000}, {1, 0, 20001},
            {1, 0, -20001}, {0, 1, 1}, {-1, 0, -1}, {1, 2, 1}, {1, 3, 1}, {2, 2, 2}, {1, 65536, 1}
        };
        for (int[] f : wrong) {
            all.add(new Try("reduce(" + f[0] + ", " + f[1] + ", " + f[2] + ")", BAD_ARGUMENT,
                desk -> desk.reduce(f[0], f[1], f[2])));
        }
    }

    private static void refusedReductions(List<Try> all, State state) {
        for (int what = -2; what <= 10; what++) {
            int number = what;
            if (!state.anyReduced() || what < 0 || what > 8) {
                all.add(new Try("reduced(" + what + ")", NO_ELEMENT, desk -> desk.reduced(number)));
            }
        }
    }

    private static void refusedClass(List<Try> all, int k) {
        all.add(new Try("form(" + k + ", 0)", NO_ELEMENT, desk -> desk.form(k, 0)));
        all.add(new Try("compose(" + k + ", 0)", NO_ELEMENT, desk -> desk.compose(k, 0)));
        all.add(new Try("compose(0, " + k + ")", NO_ELEMENT, desk -> desk.compose(0, k)));
        all.add(new Try("inverse(" + k + ")", NO_ELEMENT, desk -> desk.inverse(k)));
        all.add(new Try("power(" + k + ", 2)", NO_ELEMENT, desk -> desk.power(k, 2)));
        all.add(new Try("order(" + k + ")", NO_ELEMENT, desk -> desk.order(k)));
        all.add(new Try("genus(" + k + ")", NO_ELEMENT, desk -> desk.genus(k)));
        all.add(new Try("values(" + k + ", 1, true)", NO_ELEMENT, desk -> desk.values(k, 1, true)));
        all.add(new Try("prime(" + k + ", 1)", NO_ELEMENT, desk -> desk.prime(k, 1)));
    }

    private static void refusedNumbers(List<Try> all, State state) {
        int last = state.size() - 1;
        for (int part : new int[] {-1, 3}) {
            all.add(new Try("form(" + last + ", " + part + ")", NO_ELEMENT, desk -> desk.form(last, part)));
        }
        for (int n : new int[] {-1, 1001}) {
            all.add(new Try("values(" + last + ", " + n + ", false)", BAD_ARGUMENT, desk -> desk.values(last, n, false)));
        }
        for (int m : new int[] {-1, 0, 501}) {
            all.add(new Try("prime(" + last + ", " + m + ")", BAD_ARGUMENT, desk -> desk.prime(last, m)));
        }
    }

    private static void refusedLetters(List<Try> all, State state) {
        for (int n : new int[] {0, -1, 5, Integer.MIN_VALUE, Integer.MAX_VALUE}) {
            all.add(new Try("put(BBBB, " + n + ")", FALSE, desk -> desk.put(Letters.packed("BBBB"), n) ? 1 : 0));
        }
        for (String signs : new String[] {"1", "@", "B1", "1B", "BB0", "[BB", "BBB:", "*BBB", "B{)2"}) {
            all.add(new Try("put(" + signs + ")", FALSE, desk -> desk.put(Letters.packed(signs), signs.length()) ? 1 : 0));
        }
        for (int n = 40 - state.letters() + 1; n <= 4; n++) {
            int count = n;
            all.add(new Try("put(CCCC, " + n + ")", FALSE, desk -> desk.put(Letters.packed("CCCC"), count) ? 1 : 0));
        }
    }

    /** What they answer is tested elsewhere; word() is refused in some of the states. */
    private static List<Try> questionsIn(State state) {
        List<Try> all = new ArrayList<>();
        for (int k : new int[] {0, state.size() - 1}) {
            all.add(new Try("form(" + k + ", 2)", null, desk -> desk.form(k, 2)));
            all.add(new Try("compose(" + k + ", " + k + ")", null, desk -> desk.compose(k, k)));
            all.add(new Try("inverse(" + k + ")", null, desk -> desk.inverse(k)));
            all.add(new Try("power(" + k + ", 1000)", null, desk -> desk.power(k, 1000)));
            all.add(new Try("order(" + k + ")", null, desk -> desk.order(k)));
            all.add(new Try("genus(" + k + ")", null, desk -> desk.genus(k)));
            all.add(new Try("values(" + k + ", 1000, true)", null, desk -> desk.values(k, 1000, true)));
            all.add(new Try("prime(" + k + ", 500)", null, desk -> desk.prime(k, 500)));
        }
        for (int what = 0; what <= 8; what++) {
            int number = what;
            all.add(new Try("reduced(" + what + ")", null, desk -> desk.reduced(number)));
        }
        all.add(new Try("genera()", null, FormDesk::genera));
        all.add(new Try("word()", null, FormDesk::word));
        return all;
    }
}
