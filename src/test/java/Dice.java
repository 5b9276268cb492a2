/** Numbers that look thrown, but are the same in every run. */
final class Dice {
    private long state;

    Dice(long seed) {
        state = seed;
    }

    /** A number from least to most, both included. */
    int from(int least, int most) {
        state = state * 6364136223846793005L + 1442695040888963407L;
        long span = (long) most - least + 1;
        return (int) (least + (state >>> 33) % span);
    }

    boolean oneIn(int n) {
        return from(1, n) == 1;
    }

    char of(String signs) {
        return signs.charAt(from(0, signs.length() - 1));
    }
}
