import java.util.NoSuchElementException;

/** Promises 14 to 16. */
final class WordTest {
    public static void main(String[] args) {
        Check check = new Check("WordTest");
        everyByte(check);
        orderOfBytes(check);
        wrongCounts(check);
        fortyLetters(check);
        refusedBytesChangeNothing(check);
        brokenWords(check);
        missingClasses(check);
        goodWords(check);
        thrownWords(check);
        check.end();
    }

    private static void everyByte(Check check) {
        String allowed = "ABCDEFGHIJKLMNOPQRSTUVWXYZabcdefghijklmnopqrstuvwxyz23456789()";
        for (int sign = 0; sign < 256; sign++) {
            FormDesk desk = new FormDesk();
            int due = allowed.indexOf((char) sign) >= 0 ? 1 : 0;
            check.same("put(" + sign + ", 1)", desk.put(sign, 1) ? 1 : 0, due);
            for (int place = 0; place < 4; place++) {
                int letters = 0x41414141 & ~(255 << 8 * place) | sign << 8 * place;
                check.same("byte " + sign + " at " + place, desk.put(letters, 4) ? 1 : 0, due);
                check.same("a byte not asked for at " + place, desk.put(letters, place) ? 1 : 0, place > 0 ? 1 : 0);
            }
        }
    }

    private static void orderOfBytes(Check check) {
        FormDesk desk = new FormDesk();
        desk.discriminant(-47);
        check.is("put B2", desk.put('B' << 8 | '2', 2));
        check.same("B2", desk.word(), 4);
        check.is("put (B)2 behind a wrong byte", desk.put(0x01000000 | '(' << 16 | 'B' << 8 | ')', 3));
        check.same("B2(B)", desk.word(), desk.power(1, 3));
        check.is("put 2 alone", desk.put(0xFFFFFF00 | '2', 1));
        check.same("B2(B)2", desk.word(), desk.power(1, 4));
        desk.clear();
        check.same("cleared", desk.word(), 0);
        desk.clear();
        check.same("cleared again", desk.word(), 0);
    }

    private static void wrongCounts(Check check) {
        FormDesk desk = new FormDesk();
        int[] wrong = {0, -1, 5, Integer.MIN_VALUE, Integer.MAX_VALUE};
        for (int n : wrong) {
            check.is("put(.., " + n + ") is refused", !desk.put(0x5A5A5A5A, n));
        }
        check.same("nothing was put", desk.word(), 0);
    }

    private static void fortyLetters(Check check) {
        for (int missing = 0; missing <= 4; missing++) {
            for (int n = 1; n <= 4; n++) {
                FormDesk desk = new FormDesk();
                desk.discriminant(-1271);
                for (int i = 0; i < 40 - missing; i++) {
                    check.is("B number " + i, desk.put('B', 1));
                }
                boolean due = n <= missing;
                check.is(n + " where " + missing + " are free", desk.put(0x42424242, n) == due);
                check.same("B " + missing + " " + n, desk.word(), desk.power(1, 40 - missing + (due ? n : 0)));
                desk.clear();
                check.is("after clear there is room", desk.put(0x42424242, n));
                check.same("B " + n, desk.word(), desk.power(1, n));
            }
        }
    }

    private static void refusedBytesChangeNothing(Check check) {
        FormDesk desk = new FormDesk();
        desk.discriminant(-47);
        desk.put('B', 1);
        int[] refused = {'B' << 8 | '1', '1' << 8 | 'B', 'B' << 8, '0' << 8 | 'B', '+' << 8 | 'B', '@' << 8 | '['};
        for (int letters : refused) {
            check.is("put(" + letters + ", 2) is refused", !desk.put(letters, 2));
            check.same("the word after that", desk.word(), 1);
        }
    }

    private static void brokenWords(Check check) {
        String[] broken = {
            "(", ")", ")(", "(()", "())", "2", "(2)", "(2B)", "B22", "B23", "(B)22", "()99", "B2(3)",
            "(((((B)))))", "((((()))))", "B(((()((", "Z(", "z)", "Z22", "2Z", "(((((Z)))))"
        };
        for (String text : broken) {
            FormDesk desk = deskWith(-23, text);
            check.refuses(text, IllegalArgumentException.class, desk::word);
            check.refuses(text + " again", IllegalArgumentException.class, desk::word);
        }
    }

    private static void missingClasses(Check check) {
        String[] missing = {"D", "d", "Z", "z", "AZA", "(d)2", "D3", "Dd", "((((D))))", "zZ"};
        for (String text : missing) {
            FormDesk desk = deskWith(-23, text);
            check.refuses(text, NoSuchElementException.class, desk::word);
            desk.discriminant(-1271);
            check.same(text + " where it is there", desk.word(), new Model(-1271).word(text));
            desk.discriminant(-23);
            check.refuses(text + " again", NoSuchElementException.class, desk::word);
        }
    }

    private static void goodWords(Check check) {
        check.same("()", deskWith(-23, "()").word(), 0);
        check.same("(()())()9", deskWith(-23, "(()())()9").word(), 0);
        check.same("((((B))))", deskWith(-23, "((((B))))").word(), 1);
        check.same("(((B2)2)2)2", deskWith(-47, "(((B2)2)2)2").word(), 1);
        check.same("b", deskWith(-47, "b").word(), 2);
        check.same("b2", deskWith(-47, "b2").word(), 3);
        check.same("Bb", deskWith(-47, "Bb").word(), 0);
        check.same("B(B)2b", deskWith(-47, "B(B)2b").word(), 4);
        check.same("aA9", deskWith(-3, "aA9").word(), 0);
        check.same("Z", deskWith(-1271, "Z").word(), 25);
    }

    private static void thrownWords(Check check) {
        Dice dice = new Dice(3);
        int[] discriminants = {-3, -23, -47, -84, -420, -971, -1271, -1839, -1999, -2000};
        for (int i = 0; i < 40000; i++) {
            int d = discriminants[dice.from(0, discriminants.length - 1)];
            Model model = MODELS.computeIfAbsent(d, Model::new);
            String text = dice.oneIn(4) ? noise(dice) : wordOf(dice, Math.min(26, model.size()), 0);
            if (text.length() > 40) {
                text = text.substring(0, 40);
            }
            FormDesk desk = deskWith(d, text);
            String due = outcomeOf(model.word(text));
            check.is(d + ": " + text + " gives " + due, Check.outcome(desk::word).equals(due));
            check.is(d + ": " + text + " stays", Check.outcome(desk::word).equals(due));
        }
    }

    private static final java.util.Map<Integer, Model> MODELS = new java.util.HashMap<>();

    private static String outcomeOf(int due) {
        return due == -1 ? "IllegalArgumentException" : due == -2 ? "NoSuchElementException" : String.valueOf(due);
    }

    private static String noise(Dice dice) {
        StringBuilder text = new StringBuilder();
        for (int left = dice.from(0, 12); left > 0; left--) {
            text.append(dice.of("ABCDabcd23(()))Zz"));
        }
        return text.toString();
    }

    private static String wordOf(Dice dice, int classes, int depth) {
        StringBuilder text = new StringBuilder();
        for (int left = dice.from(0, 6); left > 0; left--) {
            if (depth < 4 && dice.oneIn(3)) {
                text.append('(').append(wordOf(dice, classes, depth + 1)).append(')');
            } else {
                text.append((char) ((dice.oneIn(2) ? 'A' : 'a') + dice.from(0, classes - 1)));
            }
            if (dice.oneIn(3)) {
                text.append(dice.of("23456789"));
            }
        }
        return text.toString();
    }

    private static FormDesk deskWith(int d, String text) {
        FormDesk desk = new FormDesk();
        desk.discriminant(d);
        for (int i = 0; i < text.length(); i++) {
            desk.put(text.charAt(i), 1);
        }
        return desk;
    }
}
