import java.util.HashMap;
import java.util.Map;

/** All promises in mixed runs of 512 calls, right and wrong ones, beside a model of the whole state. */
final class MixedRunTest {
    private static final Map<Integer, Model> MODELS = new HashMap<>();
    private static final String NO_ELEMENT = "NoSuchElementException";
    private static final String BAD_ARGUMENT = "IllegalArgumentException";

    private final Dice dice;
    private final FormDesk desk = new FormDesk();
    private Model model = modelOf(-3);
    private int[] last = null;
    private String text = "";

    private MixedRunTest(Dice dice) {
        this.dice = dice;
    }

    public static void main(String[] args) {
        Check check = new Check("MixedRunTest");
        for (int run = 1; run <= 300; run++) {
            MixedRunTest test = new MixedRunTest(new Dice(run));
            for (int call = 1; call <= 512; call++) {
                test.oneCall(check, "run " + run + ", call " + call + ", ");
            }
        }
        check.end();
    }

    private static Model modelOf(int d) {
        return MODELS.computeIfAbsent(d, Model::new);
    }

    private void oneCall(Check check, String at) {
        int k = aClass();
        int j = aClass();
        switch (dice.from(0, 14)) {
            case 0: discriminant(check, at); break;
            case 1: form(check, at, k); break;
            case 2: reduce(check, at); break;
            case 3: reduced(check, at); break;
            case 4: due(check, at + "compose " + j + " " + k, () -> desk.compose(j, k),
                model.has(j) && model.has(k) ? String.valueOf(model.compose(j, k)) : NO_ELEMENT); break;
            case 5: due(check, at + "inverse " + k, () -> desk.inverse(k), orMissing(k, () -> model.inverse(k))); break;
            case 6: power(check, at, k); break;
            case 7: due(check, at + "order " + k, () -> desk.order(k), orMissing(k, () -> model.order(k))); break;
            case 8: due(check, at + "genus " + k, () -> desk.genus(k), orMissing(k, () -> model.genus(k))); break;
            case 9: due(check, at + "genera", desk::genera, String.valueOf(model.genera())); break;
            case 10: values(check, at, k); break;
            case 11: prime(check, at, k); break;
            case 12: put(check, at); break;
            case 13: clear(); break;
            default: word(check, at); break;
        }
    }

    private static void due(Check check, String call, Check.Call run, String want) {
        String got = Check.outcome(run);
        check.is(call + " gives " + want + " (it gave " + got + ")", got.equals(want));
    }

    private String orMissing(int k, Check.Call run) {
        return model.has(k) ? String.valueOf(run.run()) : NO_ELEMENT;
    }

    private int aClass() {
        return dice.oneIn(12) ? dice.from(-2, 45) : dice.from(0, model.size() - 1);
    }

    private void discriminant(Check check, String at) {
        int d = dice.oneIn(10) ? dice.from(-2010, 10) : -4 * dice.from(1, 500) + (dice.oneIn(2) ? 1 : 0);
        Model next = Model.isDiscriminant(d) ? modelOf(d) : null;
        String want = next == null ? BAD_ARGUMENT
            : next.size() > 40 ? "ArithmeticException" : String.valueOf(next.size());
        due(check, at + "discriminant " + d, () -> desk.discriminant(d), want);
        if (next != null && next.size() <= 40) {
            model = next;
        }
    }

    private void form(Check check, String at, int k) {
        int part = dice.from(-1, 3);
        boolean there = model.has(k) && part >= 0 && part < 3;
        due(check, at + "form " + k + " " + part, () -> desk.form(k, part),
            there ? String.valueOf(model.forms.get(k)[part]) : NO_ELEMENT);
    }

    private void reduce(Check check, String at) {
        int[] form = {dice.from(-5, 50), dice.from(-60, 60), dice.from(-5, 50)};
        if (dice.oneIn(2)) {
            int t = dice.from(-5, 5);
            form = Model.transformed(model.forms.get(dice.from(0, model.size() - 1)), new int[] {1 + t * 3, t, 3, 1});
        }
        int a = form[0];
        int b = form[1];
        int c = form[2];
        boolean inside = Math.max(Math.abs(a), Math.max(Math.abs(b), Math.abs(c))) <= 20000;
        boolean good = inside && Model.isForm(a, b, c);
        if (good) {
            last = Model.reduction(a, b, c);
        }
        due(check, at + "reduce " + a + " " + b + " " + c, () -> desk.reduce(a, b, c),
            good ? String.valueOf(last[8]) : BAD_ARGUMENT);
    }

    private void reduced(Check check, String at) {
        int what = dice.from(-1, 9);
        String want = NO_ELEMENT;
        if (last != null && what >= 0 && what < 8) {
            want = String.valueOf(last[what]);
        } else if (last != null && what == 8) {
            want = String.valueOf(last[7] == model.discriminant ? model.classOf(last[0], last[1], last[2]) : -1);
        }
        due(check, at + "reduced " + what, () -> desk.reduced(what), want);
    }

    private void power(Check check, String at, int k) {
        int n = dice.oneIn(2) ? dice.from(-50, 50) : dice.from(Integer.MIN_VALUE, Integer.MAX_VALUE);
        due(check, at + "power " + k + " " + n, () -> desk.power(k, n), orMissing(k, () -> model.power(k, n)));
    }

    private void values(Check check, String at, int k) {
        int n = dice.from(-20, 1020);
        boolean properly = dice.oneIn(2);
        String want = !model.has(k) ? NO_ELEMENT
            : n < 0 || n > 1000 ? BAD_ARGUMENT : String.valueOf(model.pairs(k, properly)[n]);
        due(check, at + "values " + k + " " + n + " " + properly, () -> desk.values(k, n, properly), want);
    }

    private void prime(Check check, String at, int k) {
        int m = dice.from(-10, 510);
        String want = !model.has(k) ? NO_ELEMENT : BAD_ARGUMENT;
        if (model.has(k) && m >= 1 && m <= 500) {
            int[] pairs = model.pairs(k, true);
            int least = 1;
            while (pairs[least] == 0 || Model.gcd(least, m) != 1) {
                least++;
            }
            want = String.valueOf(least);
        }
        due(check, at + "prime " + k + " " + m, () -> desk.prime(k, m), want);
    }

    private void put(Check check, String at) {
        int n = dice.oneIn(10) ? dice.from(-1, 6) : dice.from(1, 4);
        StringBuilder signs = new StringBuilder();
        int letters = dice.from(Integer.MIN_VALUE, Integer.MAX_VALUE);
        for (int i = 0; i < n; i++) {
            char sign = dice.of(dice.oneIn(20) ? "01@[`{*:/ " : "ABCDabcdEeFf23()");
            signs.append(sign);
            letters = letters << 8 | sign;
        }
        boolean good = n >= 1 && n <= 4 && text.length() + n <= 40;
        for (int i = 0; i < signs.length(); i++) {
            good = good && "ABCDabcdEeFf23()".indexOf(signs.charAt(i)) >= 0;
        }
        int bytes = letters;
        due(check, at + "put " + signs + " " + n, () -> desk.put(bytes, n) ? 1 : 0, good ? "1" : "0");
        if (good) {
            text += signs;
        }
    }

    private void clear() {
        // A word is left to grow now and then, as it must reach its forty letters.
        if (dice.oneIn(2)) {
            desk.clear();
            text = "";
        }
    }

    private void word(Check check, String at) {
        int due = model.word(text);
        due(check, at + "word " + text, desk::word,
            due == -1 ? BAD_ARGUMENT : due == -2 ? NO_ELEMENT : String.valueOf(due));
    }
}
