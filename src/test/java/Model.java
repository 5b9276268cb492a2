import java.util.ArrayList;
import java.util.Comparator;
import java.util.List;
import java.util.TreeSet;

/** The desk's terms, worked out slowly and as literally as the document says them. */
final class Model {
    /** No reduced form of the desk has a value up to 1000 at a pair outside of this box. */
    private static final int BOX = 40;

    final int discriminant;
    final List<int[]> forms = new ArrayList<>();
    private final int[][] compositions;

    Model(int discriminant) {
        this.discriminant = discriminant;
        listForms();
        compositions = new int[forms.size()][forms.size()];
        for (int[] row : compositions) {
            java.util.Arrays.fill(row, -1);
        }
    }

    static boolean isDiscriminant(int d) {
        return d >= -2000 && d < 0 && (d % 4 == 0 || (d - 1) % 4 == 0);
    }

    static int gcd(int m, int n) {
        return n == 0 ? Math.abs(m) : gcd(n, m % n);
    }

    static boolean isForm(long a, long b, long c) {
        return a > 0 && b * b - 4 * a * c < 0 && gcd(gcd((int) a, (int) b), (int) c) == 1;
    }

    static boolean isReduced(int a, int b, int c) {
        return Math.abs(b) <= a && a <= c && !(b < 0 && (Math.abs(b) == a || a == c));
    }

    /** (a, b, c) with x, y replaced by p * x + q * y, r * x + s * y. */
    static int[] transformed(int[] form, int[] m) {
        long a = form[0];
        long b = form[1];
        long c = form[2];
        long p = m[0];
        long q = m[1];
        long r = m[2];
        long s = m[3];
        return new int[] {
            (int) (a * p * p + b * p * r + c * r * r),
            (int) (2 * a * p * q + b * (p * s + q * r) + 2 * c * r * s),
            (int) (a * q * q + b * q * s + c * s * s)
        };
    }

    static int[] times(int[] m, int[] n) {
        return new int[] {
            m[0] * n[0] + m[1] * n[2], m[0] * n[1] + m[1] * n[3],
            m[2] * n[0] + m[3] * n[2], m[2] * n[1] + m[3] * n[3]
        };
    }

    /** The reduced form, the matrix, the discriminant, and behind them how many steps it took. */
    static int[] reduction(int a, int b, int c) {
        int[] form = {a, b, c};
        int[] matrix = {1, 0, 0, 1};
        int steps = 0;
        while (!isReduced(form[0], form[1], form[2])) {
            int[] step = stepFrom(form);
            form = transformed(form, step);
            matrix = times(matrix, step);
            steps++;
        }
        return new int[] {
            form[0], form[1], form[2], matrix[0], matrix[1], matrix[2], matrix[3], b * b - 4 * a * c, steps
        };
    }

    int size() {
        return forms.size();
    }

    boolean has(int k) {
        return k >= 0 && k < size();
    }

    int classOf(int a, int b, int c) {
        int[] reduced = reduction(a, b, c);
        for (int k = 0; k < size(); k++) {
            int[] form = forms.get(k);
            if (form[0] == reduced[0] && form[1] == reduced[1] && form[2] == reduced[2]) {
                return k;
            }
        }
        return -1;
    }

    int compose(int j, int k) {
        if (compositions[j][k] < 0) {
            compositions[j][k] = composed(j, k);
        }
        return compositions[j][k];
    }

    int inverse(int k) {
        int j = 0;
        while (compose(j, k) != 0) {
            j++;
        }
        return j;
    }

    int power(int k, int n) {
        int base = n < 0 ? inverse(k) : k;
        int result = 0;
        // Binary digits, as the literal way would take too long for a large n.
        for (long rest = Math.abs((long) n); rest > 0; rest /= 2) {
            if (rest % 2 == 1) {
                result = compose(result, base);
            }
            base = compose(base, base);
        }
        return result;
    }

    int order(int k) {
        int times = 1;
        for (int reached = k; reached != 0; reached = compose(reached, k)) {
            times++;
        }
        return times;
    }

    int genus(int k) {
        int least = Integer.MAX_VALUE;
        for (int j = 0; j < size(); j++) {
            least = Math.min(least, compose(k, compose(j, j)));
        }
        return least;
    }

    int genera() {
        TreeSet<Integer> all = new TreeSet<>();
        for (int k = 0; k < size(); k++) {
            all.add(genus(k));
        }
        return all.size();
    }

    /** How many pairs give each of the numbers 0 .. 1000. */
    int[] pairs(int k, boolean properly) {
        int[] form = forms.get(k);
        int[] count = new int[1001];
        for (int x = -BOX; x <= BOX; x++) {
            for (int y = -BOX; y <= BOX; y++) {
                int value = form[0] * x * x + form[1] * x * y + form[2] * y * y;
                if (value <= 1000 && (!properly || gcd(x, y) == 1)) {
                    count[value]++;
                }
            }
        }
        return count;
    }

    /** The class of a word; -1 when it is no word, -2 when a class in it is not there. */
    int word(String text) {
        WordReader reader = new WordReader(text);
        int result = reader.row(0);
        if (reader.broken || reader.at < text.length()) {
            return -1;
        }
        return reader.missing ? -2 : result;
    }

    private static int[] stepFrom(int[] form) {
        int a = form[0];
        int b = form[1];
        if (Math.abs(b) <= a && b != -a) {
            return new int[] {0, -1, 1, 0};
        }
        int k = 0;
        while (b + 2 * a * k > a) {
            k--;
        }
        while (b + 2 * a * k <= -a) {
            k++;
        }
        return new int[] {1, k, 0, 1};
    }

    private void listForms() {
        for (int a = 1; a * a <= -discriminant; a++) {
            for (int b = -a; b <= a; b++) {
                int rest = b * b - discriminant;
                int c = rest / (4 * a);
                if (rest % (4 * a) == 0 && isForm(a, b, c) && isReduced(a, b, c)) {
                    forms.add(new int[] {a, b, c});
                }
            }
        }
        forms.sort(Comparator.<int[]>comparingInt(f -> f[0])
            .thenComparingInt(f -> Math.abs(f[1]))
            .thenComparingInt(f -> -f[1]));
    }

    private int composed(int j, int k) {
        int a = forms.get(j)[0];
        int b = forms.get(j)[1];
        int[] second = withFirstCoprimeTo(a, forms.get(k));
        int g = second[0];
        int h = second[1];
        int middle = b;
        while ((middle - h) % (2 * g) != 0) {
            middle += 2 * a;
        }
        long third = ((long) middle * middle - discriminant) / (4L * a * g);
        return classOf(a * g, middle, (int) third);
    }

    private static int[] withFirstCoprimeTo(int a, int[] form) {
        for (int p = 0;; p++) {
            for (int r = 0; r <= p + 1; r++) {
                if (gcd(p, r) == 1) {
                    int[] made = transformed(form, matrixWithColumn(p, r));
                    if (gcd(made[0], a) == 1) {
                        return made;
                    }
                }
            }
        }
    }

    private static int[] matrixWithColumn(int p, int r) {
        for (int q = -p - 1; q <= p + 1; q++) {
            for (int s = -r - 1; s <= r + 1; s++) {
                if (p * s - q * r == 1) {
                    return new int[] {p, q, r, s};
                }
            }
        }
        throw new AssertionError("no matrix with this column");
    }

    private final class WordReader {
        private final String text;
        private int at = 0;
        private boolean broken = false;
        private boolean missing = false;

        WordReader(String text) {
            this.text = text;
        }

        int row(int depth) {
            int result = 0;
            while (at < text.length() && text.charAt(at) != ')' && !broken) {
                result = compose(result, raised(item(depth)));
            }
            return result;
        }

        private int item(int depth) {
            char sign = text.charAt(at++);
            if (sign == '(') {
                return part(depth + 1);
            }
            if (!Character.isLetter(sign)) {
                broken = true;
                return 0;
            }
            int k = Character.toUpperCase(sign) - 'A';
            if (!has(k)) {
                missing = true;
                return 0;
            }
            return Character.isUpperCase(sign) ? k : inverse(k);
        }

        private int part(int depth) {
            int result = row(depth);
            if (depth > 4 || at >= text.length() || text.charAt(at) != ')') {
                broken = true;
            } else {
                at++;
            }
            return result;
        }

        private int raised(int base) {
            if (broken || at >= text.length() || text.charAt(at) < '2' || text.charAt(at) > '9') {
                return base;
            }
            int result = power(base, text.charAt(at) - '0');
            at++;
            return result;
        }
    }
}
