/**
 * All that later calls show of a desk, as one text. To ask for it takes some 250 calls and leaves
 * the desk with another word and discriminant, so a test asks a desk for it once, at its end.
 */
final class Shown {
    private static final int MOST_CLASSES = 40;
    private static final int MOST_LETTERS = 40;
    private static final int FULL_LIST = -1271;

    private Shown() {
    }

    static String by(FormDesk desk) {
        StringBuilder text = new StringBuilder();
        classes(desk, text);
        text.append(" genera ").append(desk.genera());
        lastReduced(desk, text);
        text.append(" word ").append(Check.outcome(desk::word));
        roomInWord(desk, text);
        desk.discriminant(FULL_LIST);
        text.append(" at ").append(FULL_LIST).append(": ").append(Check.outcome(desk::word));
        text.append(" ").append(Check.outcome(() -> desk.reduced(8)));
        return text.toString();
    }

    private static void classes(FormDesk desk, StringBuilder text) {
        for (int k = 0; k <= MOST_CLASSES; k++) {
            int number = k;
            if (Check.outcome(() -> desk.form(number, 0)).equals("NoSuchElementException")) {
                text.append(k).append(" classes");
                return;
            }
            text.append("(").append(desk.form(k, 0)).append(" ").append(desk.form(k, 1));
            text.append(" ").append(desk.form(k, 2)).append(") ");
        }
    }

    private static void lastReduced(FormDesk desk, StringBuilder text) {
        text.append(" reduced");
        for (int what = -1; what <= 9; what++) {
            int number = what;
            text.append(" ").append(Check.outcome(() -> desk.reduced(number)));
        }
    }

    /** Closes one part after the other: that shows how deep the word stands and how long it is. */
    private static void roomInWord(FormDesk desk, StringBuilder text) {
        int room = 0;
        while (room <= MOST_LETTERS && desk.put(')', 1)) {
            room++;
            if (room <= 5) {
                text.append(" ").append(Check.outcome(desk::word));
            }
        }
        text.append(" room ").append(room);
    }
}
