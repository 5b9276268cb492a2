import java.util.NoSuchElementException;

/** The edges that promises 14 to 16 name, and those of words that the terms name. */
final class WordEdgesTest {
    private static final int FULL = 40;
    /** Class 1 of -47, which has the order 5, to the powers 0 .. 4. */
    private static final int[] POWERS_OF_B = {0, 1, 4, 3, 2};

    public static void main(String[] args) {
        Check check = new Check("WordEdgesTest");
        countsOfBytes(check);
        signsNextToTheRanges(check);
        bytesThatAreNotAsked(check);
        highestByteFirst(check);
        wordWithFortySigns(check);
        refusedPutChangesNothing(check);
        clearedWord(check);
        emptyWord(check);
        wordStays(check);
        digits(check);
        parentheses(check);
        depthOfParentheses(check);
        fullWords(check);
        lettersOfClasses(check);
        brokenBeforeMissing(check);
        check.end();
    }

    private static FormDesk deskWith(int d, String text) {
        FormDesk desk = new FormDesk();
        desk.discriminant(d);
        Letters.putAll(desk, text);
        return desk;
    }

    private static void stands(Check check, int d, String text, int due) {
        check.gives(d + ": " + text, due, () -> deskWith(d, text).word());
    }

    private static void broken(Check check, String text) {
        check.refuses("-47: " + text, IllegalArgumentException.class, () -> deskWith(-47, text).word());
    }

    private static void missing(Check check, int d, String text) {
        check.refuses(d + ": " + text, NoSuchElementException.class, () -> deskWith(d, text).word());
    }

    /** How many signs more the word takes, one by one. */
    private static int room(FormDesk desk) {
        int room = 0;
        while (room <= FULL && desk.put('A', 1)) {
            room++;
        }
        return room;
    }

    /** Promise 14: "(n is 1 .. 4)", "false, changing nothing, when n is not as said". */
    private static void countsOfBytes(Check check) {
        for (int n = 1; n <= 4; n++) {
            FormDesk desk = new FormDesk();
            check.is("put(.., " + n + ")", desk.put(0x41414141, n));
            check.same("put(.., " + n + ") leaves room for", room(desk), FULL - n);
        }
        int[] wrong = {0, 5, -1, -4, 8, 256 + 1, Integer.MIN_VALUE, Integer.MIN_VALUE + 1, Integer.MAX_VALUE};
        for (int n : wrong) {
            FormDesk desk = new FormDesk();
            check.is("put(.., " + n + ") is refused", !desk.put(0x41414141, n));
            check.same("put(.., " + n + ") leaves room for", room(desk), FULL);
        }
    }

    /** Promise 14: "one of them is no letter, digit 2 .. 9 or parenthesis". */
    private static void signsNextToTheRanges(Check check) {
        for (char sign : "AZaz29()MNmn5".toCharArray()) {
            check.is("put of " + sign, new FormDesk().put(sign, 1));
            for (int place = 0; place < 4; place++) {
                check.is("put of " + sign + " at " + place, new FormDesk().put(withByte(sign, place), 4));
            }
        }
        for (char sign : "@[`{1:'*0/+ \0\u007f\u0080\u00c1\u00e1\u00a8\u00b2\u00ff".toCharArray()) {
            check.is("put of " + (int) sign + " is refused", !new FormDesk().put(sign, 1));
            for (int place = 0; place < 4; place++) {
                FormDesk desk = new FormDesk();
                check.is((int) sign + " at " + place + " is refused", !desk.put(withByte(sign, place), 4));
                check.same((int) sign + " at " + place + " leaves room for", room(desk), FULL);
            }
        }
    }

    private static int withByte(int sign, int place) {
        return 0x41414141 & ~(255 << 8 * place) | sign << 8 * place;
    }

    /** Promise 14: "the n lowest bytes": what stands above them does not count. */
    private static void bytesThatAreNotAsked(Check check) {
        check.is("one of four", new FormDesk().put(0xFFFFFF00 | 'A', 1));
        check.is("two of four", new FormDesk().put(0xFFFF0000 | Letters.packed("AB"), 2));
        check.is("three of four", new FormDesk().put(0x00000000 | Letters.packed("ABC"), 3));
        check.is("a byte too many", !new FormDesk().put(Letters.packed("ABC"), 4));
        FormDesk desk = new FormDesk();
        desk.discriminant(-47);
        desk.put(Letters.packed("BBBB"), 1);
        check.gives("B of BBBB", 1, desk::word);
        desk.put(Letters.packed("BBCC"), 2);
        check.gives("B and CC of BBCC", 2, desk::word);
    }

    /** Promise 14: "the highest of them first". */
    private static void highestByteFirst(Check check) {
        FormDesk desk = new FormDesk();
        desk.discriminant(-47);
        desk.put('B' << 8 | '2', 2);
        check.gives("B2", 4, desk::word);
        desk.clear();
        desk.put('2' << 8 | 'B', 2);
        check.refuses("2B", IllegalArgumentException.class, desk::word);
        desk.clear();
        desk.put('(' << 24 | 'B' << 16 | ')' << 8 | '3', 4);
        check.gives("(B)3", 3, desk::word);
    }

    /** Promise 14: "or it would have more than 40". */
    private static void wordWithFortySigns(Check check) {
        for (int there = FULL - 5; there <= FULL; there++) {
            for (int n = 1; n <= 4; n++) {
                FormDesk desk = deskWith(-47, "B".repeat(there));
                boolean fits = there + n <= FULL;
                check.is(n + " more where " + there + " are", desk.put(Letters.packed("BBBB"), n) == fits);
                int length = fits ? there + n : there;
                check.gives("B " + length + " times", POWERS_OF_B[length % 5], desk::word);
                check.same("room behind " + length, room(desk), FULL - length);
            }
        }
    }

    /** Promise 14: "false, changing nothing". */
    private static void refusedPutChangesNothing(Check check) {
        FormDesk desk = deskWith(-47, "B");
        String[] wrong = {"B1", "1B", "BBB1", "1BBB", "B@", "B B", "(B}", "B0"};
        for (String text : wrong) {
            check.is(text + " is refused", !desk.put(Letters.packed(text), text.length()));
            check.gives("the word behind " + text, 1, desk::word);
        }
        check.is("no bytes", !desk.put('B', 0));
        check.is("five bytes", !desk.put(0x42424242, 5));
        check.gives("the word behind wrong counts", 1, desk::word);
        check.is("2 behind them", desk.put('2', 1));
        check.gives("B2", 4, desk::word);
        check.same("room behind B2", room(desk), FULL - 2);
        check.is("a full word takes none", !desk.put('B', 1));
        check.gives("a full word", 4, desk::word);
    }

    /** Promise 15: "The word becomes empty.", be it empty, full, broken or with a class that is not there. */
    private static void clearedWord(Check check) {
        String[] words = {"", "B", "(", "2", "Z", "B".repeat(FULL), "(".repeat(FULL), ")".repeat(FULL)};
        for (String text : words) {
            FormDesk desk = deskWith(-47, text);
            desk.reduce(3, 1, 2);
            desk.clear();
            check.gives("cleared", 0, desk::word);
            desk.clear();
            check.gives("cleared twice", 0, desk::word);
            check.gives("the form reduced stays", 2, () -> desk.reduced(0));
            check.gives("the list stays", 5, () -> desk.order(1));
            check.is("B2 behind clear", desk.put(Letters.packed("B2"), 2));
            check.gives("B2 behind clear: word()", 4, desk::word);
            check.same("room behind B2", room(desk), FULL - 2);
        }
    }

    /** Terms: "the empty word, also between parentheses, stands for 0". */
    private static void emptyWord(Check check) {
        int[] discriminants = {-3, -47, -1271, -2000};
        String[] words = {"", "()", "()2", "()9", "(())", "((()))", "(((())))", "()()", "(()2)9", "(()())"};
        for (int d : discriminants) {
            for (String text : words) {
                stands(check, d, text, 0);
            }
        }
        stands(check, -47, "()B", 1);
        stands(check, -47, "B()", 1);
        stands(check, -47, "B()9", 1);
        stands(check, -47, "(B())2", 4);
    }

    /** Promise 16: "The class that the word stands for; it stays." */
    private static void wordStays(Check check) {
        FormDesk desk = deskWith(-47, "B");
        for (int i = 0; i < 3; i++) {
            check.gives("B, asked again", 1, desk::word);
        }
        desk.put('2', 1);
        check.gives("B2", 4, desk::word);
        desk.discriminant(-23);
        check.gives("B2 at -23", 2, desk::word);
        desk.put('(', 1);
        check.refuses("B2(", IllegalArgumentException.class, desk::word);
        check.refuses("B2( again", IllegalArgumentException.class, desk::word);
        desk.put(')', 1);
        check.gives("B2()", 2, desk::word);
        desk.put('D', 1);
        check.refuses("B2()D", NoSuchElementException.class, desk::word);
        check.refuses("B2()D again", NoSuchElementException.class, desk::word);
        desk.discriminant(-47);
        // 4 is class 1 to the power 2, 3 is class 1 to the power 3.
        check.gives("B2()D at -47", 0, desk::word);
    }

    /** Terms: "a digit 2 .. 9 behind a letter or a part in parentheses raises that to this power". */
    private static void digits(Check check) {
        for (int n = 2; n <= 9; n++) {
            stands(check, -47, "B" + n, POWERS_OF_B[n % 5]);
            stands(check, -47, "(B)" + n, POWERS_OF_B[n % 5]);
            broken(check, String.valueOf(n));
            broken(check, "(" + n + ")");
            broken(check, "B(" + n + ")");
            broken(check, "B2" + n);
            broken(check, "B" + n + "2");
            broken(check, "(B)" + n + "2");
        }
        stands(check, -47, "b2", 3);
        stands(check, -47, "BB2", 3);
        stands(check, -47, "(BB)2", 2);
        stands(check, -47, "B2B", 3);
        stands(check, -47, "(B2)2", 2);
        stands(check, -47, "(B2)(B3)", 0);
        broken(check, "()22");
        broken(check, "B2(B)23");
    }

    private static void parentheses(Check check) {
        String[] wrong = {"(", ")", ")(", "(()", "())", "(B", "B)", "B)(B", "((B)", "(B))", ")B(", "(B)2)"};
        for (String text : wrong) {
            broken(check, text);
        }
        stands(check, -47, "(B)", 1);
        stands(check, -47, "(B)(B)", 4);
        stands(check, -47, "((B)B)B", 3);
        stands(check, -47, "B(B(B))", 3);
    }

    /** Terms: "parentheses lie at most 4 deep in one another". */
    private static void depthOfParentheses(Check check) {
        stands(check, -47, "(((B)))", 1);
        stands(check, -47, "((((B))))", 1);
        broken(check, "(((((B)))))");
        broken(check, "((((()))))");
        broken(check, "((((((B))))))");
        broken(check, "((((B(B)))))");
        broken(check, "(((((");
        // Side by side, they are not in one another.
        stands(check, -47, "((((B))))((((B))))", 4);
        stands(check, -47, "((((B)(B)))(B))", 3);
        stands(check, -47, "(B)(B)(B)(B)(B)(B)", 1);
        stands(check, -47, "(((())(B)))", 1);
        broken(check, "((((B))))(((((B)))))");
        stands(check, -47, "((((B9)9)9)9)9", 2);
        stands(check, -47, "((((B2)2)2)2)2", 4);
    }

    /** Words of forty signs. */
    private static void fullWords(Check check) {
        stands(check, -47, "A".repeat(FULL), 0);
        stands(check, -47, "B".repeat(FULL), 0);
        stands(check, -47, "B".repeat(FULL - 1) + "b", 3);
        stands(check, -47, "B9".repeat(19) + "BB", 3);
        stands(check, -47, "()".repeat(FULL / 2), 0);
        stands(check, -47, "((((" + "B".repeat(32) + "))))", 4);
        stands(check, -47, "((((" + "B".repeat(28) + ")2)2)2)2", 3);
        stands(check, -47, "(((())))".repeat(5), 0);
        stands(check, -47, "C".repeat(FULL - 2) + "C9", 3);
        broken(check, "(".repeat(FULL));
        broken(check, ")".repeat(FULL));
        broken(check, "(".repeat(FULL / 2) + ")".repeat(FULL / 2));
        broken(check, "B".repeat(FULL - 1) + "(");
        broken(check, "B".repeat(FULL - 1) + ")");
        broken(check, "(" + "B".repeat(FULL - 1));
        broken(check, "2" + "B".repeat(FULL - 1));
        missing(check, -47, "B".repeat(FULL - 1) + "F");
        missing(check, -47, "f" + "B".repeat(FULL - 1));
    }

    /** Promise 16: "a class in it is not there"; A .. Z are 0 .. 25, a .. z their inverses. */
    private static void lettersOfClasses(Check check) {
        stands(check, -3, "A", 0);
        stands(check, -3, "a", 0);
        missing(check, -3, "B");
        missing(check, -3, "b");
        stands(check, -23, "C", 2);
        stands(check, -23, "c", 1);
        missing(check, -23, "D");
        missing(check, -23, "d");
        stands(check, -479, "Y", 24);
        stands(check, -479, "y", 23);
        missing(check, -479, "Z");
        missing(check, -479, "z");
        stands(check, -551, "Z", 25);
        stands(check, -551, "z", 24);
        stands(check, -1271, "Z", 25);
        stands(check, -1271, "z", 26);
        String[] with = {"Dd", "D2", "(D)", "((((D))))", "AD", "DA", "D2d2", "()D", "BZ", "zB"};
        for (String text : with) {
            missing(check, -23, text);
        }
    }

    /** Promise 16: "NoSuchElementException when it is one, but a class in it is not there". */
    private static void brokenBeforeMissing(Check check) {
        String[] both = {"Z(", ")z", "Z22", "2Z", "(((((Z)))))", "(Z", "Z)", "Z(2)"};
        for (String text : both) {
            broken(check, text);
        }
    }
}
