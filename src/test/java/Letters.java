/** Puts texts into the word of a desk. */
final class Letters {
    private Letters() {
    }

    /** The signs as put() takes them: the first one is the highest byte. */
    static int packed(String signs) {
        int letters = 0;
        for (int i = 0; i < signs.length(); i++) {
            letters = letters << 8 | signs.charAt(i);
        }
        return letters;
    }

    /** Puts the whole text, four signs at a time; false if one of the calls is refused. */
    static boolean putAll(FormDesk desk, String text) {
        boolean taken = true;
        for (int at = 0; at < text.length(); at += 4) {
            String signs = text.substring(at, Math.min(at + 4, text.length()));
            taken = desk.put(packed(signs), signs.length()) && taken;
        }
        return taken;
    }
}
