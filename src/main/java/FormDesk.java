import java.util.NoSuchElementException;

/**
 * A desk for binary quadratic forms of a negative discriminant: it reduces forms, lists the reduced
 * ones, works with their classes as a group, looks for numbers among the values of a form, and
 * works out words of classes.
 */
public final class FormDesk {
    public static final int NONE = -1;

    private static final int FIRST_DISCRIMINANT = -3;
    private static final int LEAST_DISCRIMINANT = -2000;
    private static final int MOST_CLASSES = 40;
    private static final int LARGEST_COEFFICIENT = 20000;
    private static final int LARGEST_VALUE = 1000;
    private static final int LARGEST_MODULUS = 500;
    private static final int MOST_LETTERS = 40;
    private static final int MOST_DEPTH = 4;

    // Far above what can be needed: Euclid takes under 50 rounds on two ints, a reduction under 50
    // steps, and the least value that prime() finds is below 700 for every class and modulus.
    private static final int EUCLID_BOUND = 100;
    private static final int STEP_BOUND = 1000;
    private static final int PRIME_BOUND = 100000;

    private ClassList classes = new ClassList();
    private ClassList spare = new ClassList();
    private final Reduction last = new Reduction();
    private boolean anyReduced = false;
    private final Word text = new Word();

    public FormDesk() {
        classes.fill(FIRST_DISCRIMINANT);
    }

    public int discriminant(int d) throws IllegalArgumentException, ArithmeticException {
        if (!isDeskDiscriminant(d)) {
            throw new IllegalArgumentException();
        }
        // The spare list is filled first, so that a refused discriminant leaves the desk as it is.
        if (!spare.fill(d)) {
            throw new ArithmeticException();
        }
        ClassList old = classes;
        classes = spare;
        spare = old;
        return classes.size;
    }

    public int form(int k, int part) throws NoSuchElementException {
        if (!classes.has(k) || part < 0 || part > 2) {
            throw new NoSuchElementException();
        }
        return part == 0 ? classes.a[k] : part == 1 ? classes.b[k] : classes.c[k];
    }

    public int reduce(int a, int b, int c) throws IllegalArgumentException {
        if (!isCoefficient(a) || !isCoefficient(b) || !isCoefficient(c) || !isForm(a, b, c)) {
            throw new IllegalArgumentException();
        }
        anyReduced = true;
        return last.run(a, b, c);
    }

    public int reduced(int what) throws NoSuchElementException {
        if (!anyReduced || what < 0 || what > 8) {
            throw new NoSuchElementException();
        }
        return what == 8 ? classOfLast() : last.part(what);
    }

    public int compose(int j, int k) throws NoSuchElementException {
        if (!classes.has(j) || !classes.has(k)) {
            throw new NoSuchElementException();
        }
        return classes.product(j, k);
    }

    public int inverse(int k) throws NoSuchElementException {
        if (!classes.has(k)) {
            throw new NoSuchElementException();
        }
        return classes.opposite(k);
    }

    public int power(int k, int n) throws NoSuchElementException {
        if (!classes.has(k)) {
            throw new NoSuchElementException();
        }
        return classes.raised(k, n);
    }

    public int order(int k) throws NoSuchElementException {
        if (!classes.has(k)) {
            throw new NoSuchElementException();
        }
        return classes.orderOf(k);
    }

    public int genus(int k) throws NoSuchElementException {
        if (!classes.has(k)) {
            throw new NoSuchElementException();
        }
        return classes.genusOf(k);
    }

    public int genera() {
        return classes.countGenera();
    }

    public int values(int k, int n, boolean properly)
            throws NoSuchElementException, IllegalArgumentException {
        if (!classes.has(k)) {
            throw new NoSuchElementException();
        }
        if (n < 0 || n > LARGEST_VALUE) {
            throw new IllegalArgumentException();
        }
        return classes.countPairs(k, n, properly);
    }

    public int prime(int k, int m) throws NoSuchElementException, IllegalArgumentException {
        if (!classes.has(k)) {
            throw new NoSuchElementException();
        }
        if (m < 1 || m > LARGEST_MODULUS) {
            throw new IllegalArgumentException();
        }
        return classes.leastCoprimeValue(k, m);
    }

    public boolean put(int letters, int n) {
        return text.append(letters, n);
    }

    public void clear() {
        text.length = 0;
    }

    public int word() throws IllegalArgumentException, NoSuchElementException {
        if (!text.isWellFormed()) {
            throw new IllegalArgumentException();
        }
        if (!text.isWithin(classes)) {
            throw new NoSuchElementException();
        }
        return text.valueIn(classes);
    }

    private int classOfLast() {
        return last.discriminant == classes.discriminant ? classes.find(last.a, last.b) : NONE;
    }

    private static boolean isDeskDiscriminant(int d) {
        int rest = Math.floorMod(d, 4);
        return d >= LEAST_DISCRIMINANT && d < 0 && (rest == 0 || rest == 1);
    }

    private static boolean isCoefficient(int n) {
        return n >= -LARGEST_COEFFICIENT && n <= LARGEST_COEFFICIENT;
    }

    private static boolean isForm(int a, int b, int c) {
        return a > 0 && b * b - 4 * a * c < 0 && isPrimitive(a, b, c);
    }

    private static boolean isPrimitive(int a, int b, int c) {
        return gcd(gcd(a, b), c) == 1;
    }

    private static boolean divides(int divisor, int n) {
        return divisor != 0 && n % divisor == 0;
    }

    private static int gcd(int m, int n) {
        int x = Math.abs(m);
        int y = Math.abs(n);
        for (int i = 0; i < EUCLID_BOUND && y != 0; i++) {
            int rest = x % y;
            x = y;
            y = rest;
        }
        return x;
    }

    /** The largest number whose square is at most n, for n from 0 to 2 to the power 30, less 1. */
    private static int root(int n) {
        int found = 0;
        for (int bit = 1 << 14; bit > 0; bit >>= 1) {
            int next = found + bit;
            if (next * next <= n) {
                found = next;
            }
        }
        return found;
    }

    /** A form on its way to the reduced one, and the matrix of the steps taken. */
    private static final class Reduction {
        private int a;
        private int b;
        private int c;
        private int p;
        private int q;
        private int r;
        private int s;
        private int discriminant;

        /** Reduces the form (first, middle, third) and answers how many steps that took. */
        int run(int first, int middle, int third) {
            start(first, middle, third);
            int steps = 0;
            // A form as said keeps its first number above 0, and a shift divides by twice that.
            while (steps < STEP_BOUND && a > 0 && !isReduced()) {
                if (needsShift()) {
                    shift();
                } else {
                    turn();
                }
                steps++;
            }
            return steps;
        }

        int part(int what) {
            switch (what) {
                case 0: return a;
                case 1: return b;
                case 2: return c;
                case 3: return p;
                case 4: return q;
                case 5: return r;
                case 6: return s;
                default: return discriminant;
            }
        }

        private void start(int first, int middle, int third) {
            a = first;
            b = middle;
            c = third;
            p = 1;
            q = 0;
            r = 0;
            s = 1;
            discriminant = b * b - 4 * a * c;
        }

        private boolean isReduced() {
            int size = Math.abs(b);
            return size <= a && a <= c && (b >= 0 || size != a && a != c);
        }

        private boolean needsShift() {
            return Math.abs(b) > a || b == -a;
        }

        private void shift() {
            int k = Math.floorDiv(a - b, 2 * a);
            c = (a * k + b) * k + c;
            b = b + 2 * a * k;
            q = p * k + q;
            s = r * k + s;
        }

        private void turn() {
            int oldA = a;
            a = c;
            b = -b;
            c = oldA;
            int oldP = p;
            p = q;
            q = -oldP;
            int oldR = r;
            r = s;
            s = -oldR;
        }
    }

    /** The reduced forms of one discriminant in their order, and the group of their classes. */
    private static final class ClassList {
        private final int[] a = new int[MOST_CLASSES];
        private final int[] b = new int[MOST_CLASSES];
        private final int[] c = new int[MOST_CLASSES];
        private final Reduction composed = new Reduction();
        private int discriminant;
        private int size;

        /** Lists the forms of discriminant d; false, with a list of no use, when there are too many. */
        boolean fill(int d) {
            discriminant = d;
            size = 0;
            // A reduced form has 3 * a * a <= 4 * a * c - b * b.
            for (int first = 1; 3 * first * first <= -d; first++) {
                for (int middle = 0; middle <= first; middle++) {
                    if (!addBoth(first, middle)) {
                        return false;
                    }
                }
            }
            return true;
        }

        boolean has(int k) {
            return k >= 0 && k < size;
        }

        /** The class whose form begins with first, middle: with the discriminant, these tell the form. */
        int find(int first, int middle) {
            for (int k = 0; k < size; k++) {
                if (a[k] == first && b[k] == middle) {
                    return k;
                }
            }
            return NONE;
        }

        /**
         * Composes without looking for a form with a coprime first number: with e the common divisor
         * of both first numbers and half the sum of the middle ones, the product of the first numbers
         * over e * e is the first number of a form in the class that is sought. NONE only for a
         * class that is not there.
         */
        int product(int j, int k) {
            if (!has(j) || !has(k)) {
                return NONE;
            }
            int e = gcd(gcd(a[j], a[k]), (b[j] + b[k]) / 2);
            if (e == 0) {
                return NONE;
            }
            int left = a[j] / e;
            int right = a[k] / e;
            int middle = middleOfProduct(left, b[j], right, b[k], e);
            int rest = middle * middle - discriminant;
            int divisor = 4 * left * right;
            if (!divides(divisor, rest)) {
                return NONE;
            }
            composed.run(left * right, middle, rest / divisor);
            return find(composed.a, composed.b);
        }

        int opposite(int k) {
            if (!has(k)) {
                return NONE;
            }
            int other = find(a[k], -b[k]);
            // Where the mirrored form is not reduced, it is equivalent to the form itself.
            return other == NONE ? k : other;
        }

        int raised(int k, int n) {
            if (size == 0) {
                return NONE;
            }
            // Every class to the power of the number of classes is 0, so only the rest of n counts.
            int times = Math.floorMod(n, size);
            int result = 0;
            for (int i = 0; i < times; i++) {
                result = product(result, k);
            }
            return result;
        }

        int orderOf(int k) {
            int order = 1;
            int reached = k;
            while (reached != 0 && order < size) {
                reached = product(reached, k);
                order++;
            }
            return order;
        }

        int genusOf(int k) {
            int least = k;
            for (int j = 0; j < size; j++) {
                least = Math.min(least, product(k, product(j, j)));
            }
            return least;
        }

        /** As many as there are classes that are their own inverses: squaring has these as its kernel. */
        int countGenera() {
            int count = 0;
            for (int k = 0; k < size; k++) {
                if (opposite(k) == k) {
                    count++;
                }
            }
            return count;
        }

        int countPairs(int k, int n, boolean properly) {
            if (!has(k)) {
                return 0;
            }
            int count = 0;
            // 4 * a * n = (2 * a * x + b * y)^2 - D * y * y, and |y| is never above n in a reduced form.
            for (int y = 0; y <= n; y++) {
                int square = 4 * a[k] * n + discriminant * y * y;
                if (square < 0) {
                    break;
                }
                int inRow = countInRow(k, y, square, properly);
                // The pair (-x, -y) has the value of (x, y).
                count += y == 0 ? inRow : 2 * inRow;
            }
            return count;
        }

        int leastCoprimeValue(int k, int m) {
            for (int n = 1; n <= PRIME_BOUND; n++) {
                if (gcd(n, m) == 1 && countPairs(k, n, true) > 0) {
                    return n;
                }
            }
            return NONE;
        }

        private boolean addBoth(int first, int middle) {
            int rest = middle * middle - discriminant;
            if (!divides(4 * first, rest)) {
                return true;
            }
            int third = rest / (4 * first);
            if (third < first || !isPrimitive(first, middle, third)) {
                return true;
            }
            boolean added = add(first, middle, third);
            if (middle == 0 || middle == first || first == third) {
                return added;
            }
            return added && add(first, -middle, third);
        }

        private boolean add(int first, int middle, int third) {
            if (size >= MOST_CLASSES) {
                return false;
            }
            a[size] = first;
            b[size] = middle;
            c[size] = third;
            size++;
            return true;
        }

        /** Modulo twice the first number of the product, there is exactly one number that passes. */
        private int middleOfProduct(int left, int leftMiddle, int right, int rightMiddle, int e) {
            int sum = leftMiddle + rightMiddle;
            int aim = leftMiddle * rightMiddle + discriminant;
            int modulus = 4 * left * right * e;
            int middle = leftMiddle;
            for (int t = 0; t < right; t++) {
                if (divides(2 * right, middle - rightMiddle) && divides(modulus, sum * middle - aim)) {
                    return middle;
                }
                middle += 2 * left;
            }
            return middle;
        }

        private int countInRow(int k, int y, int square, boolean properly) {
            int side = root(square);
            if (side * side != square) {
                return 0;
            }
            int count = isPair(k, side - b[k] * y, y, properly) ? 1 : 0;
            if (side != 0 && isPair(k, -side - b[k] * y, y, properly)) {
                count++;
            }
            return count;
        }

        private boolean isPair(int k, int doubleAx, int y, boolean properly) {
            int divisor = 2 * a[k];
            return divides(divisor, doubleAx) && (!properly || gcd(doubleAx / divisor, y) == 1);
        }
    }

    /** A row of letters, digits and parentheses. */
    private static final class Word {
        private final int[] row = new int[MOST_LETTERS];
        private final int[] open = new int[MOST_DEPTH + 1];
        private int length;

        boolean append(int bytes, int n) {
            if (n < 1 || n > 4 || length + n > MOST_LETTERS) {
                return false;
            }
            for (int i = 0; i < n; i++) {
                if (!isAllowed(byteOf(bytes, i))) {
                    return false;
                }
            }
            for (int i = n - 1; i >= 0; i--) {
                row[length] = byteOf(bytes, i);
                length++;
            }
            return true;
        }

        boolean isWellFormed() {
            int depth = 0;
            boolean raisable = false;
            for (int i = 0; i < length; i++) {
                int sign = row[i];
                if (sign == '(') {
                    depth++;
                } else if (sign == ')') {
                    depth--;
                }
                if (depth < 0 || depth > MOST_DEPTH || isPower(sign) && !raisable) {
                    return false;
                }
                raisable = sign != '(' && !isPower(sign);
            }
            return depth == 0;
        }

        boolean isWithin(ClassList classes) {
            for (int i = 0; i < length; i++) {
                if (isLetter(row[i]) && !classes.has(numberOf(row[i]))) {
                    return false;
                }
            }
            return true;
        }

        /** The class of this word, which is well formed and has no class that is not there. */
        int valueIn(ClassList classes) {
            int depth = 0;
            // The newest letter or part waits, as a digit may follow that raises it alone.
            int waiting = 0;
            open[0] = 0;
            for (int i = 0; i < length; i++) {
                int sign = row[i];
                if (isPower(sign)) {
                    waiting = classes.raised(waiting, sign - '0');
                    continue;
                }
                open[depth] = classes.product(open[depth], waiting);
                // A well-formed word never goes deeper or below: looked at, so that no index can.
                if (sign == '(' && depth < MOST_DEPTH) {
                    depth++;
                    open[depth] = 0;
                    waiting = 0;
                } else if (sign == ')' && depth > 0) {
                    waiting = open[depth];
                    depth--;
                } else {
                    waiting = isCapital(sign) ? numberOf(sign) : classes.opposite(numberOf(sign));
                }
            }
            return classes.product(open[0], waiting);
        }

        private static int byteOf(int bytes, int place) {
            return bytes >>> 8 * place & 255;
        }

        private static boolean isAllowed(int sign) {
            return isLetter(sign) || isPower(sign) || sign == '(' || sign == ')';
        }

        private static boolean isLetter(int sign) {
            return isCapital(sign) || sign >= 'a' && sign <= 'z';
        }

        private static boolean isCapital(int sign) {
            return sign >= 'A' && sign <= 'Z';
        }

        private static boolean isPower(int sign) {
            return sign >= '2' && sign <= '9';
        }

        private static int numberOf(int letter) {
            return isCapital(letter) ? letter - 'A' : letter - 'a';
        }
    }
}
