/**
 * Sequences of 64 numbers modulo 32003: by recurrences with polynomial factors, or made of other
 * sequences; and the recurrences (RULES) that hold for them.
 */
public final class HolonomicRows {
    private static final int MODULUS = 32003;
    private static final int PLACES = 64;
    private static final int MOST_SEQUENCES = 40;
    private static final int MOST_ORDER = 3;
    private static final int POWERS = 3;
    private static final int MOST_SHIFT = 8;
    private static final int MOST_RULE_ORDER = 4;
    private static final int MOST_RULE_DEGREE = 3;
    private static final int MOST_COLUMNS = (MOST_RULE_ORDER + 1) * (MOST_RULE_DEGREE + 1);

    private final Sequence[] sequences = new Sequence[MOST_SEQUENCES];
    private int made;

    /** What guess found; least has rules of its own, so that it leaves these alone. */
    private final Rules found = new Rules();
    private final Rules tried = new Rules();

    public HolonomicRows() {
    }

    public int function(int order) throws IllegalStateException, IllegalArgumentException {
        int number = freeNumber();
        if (order < 1 || order > MOST_ORDER) {
            throw new IllegalArgumentException("the order is not 1 to 3");
        }
        return keep(number, new Recurrence(number, order));
    }

    public boolean factor(int f, int i, int power, long v)
            throws IndexOutOfBoundsException, IllegalArgumentException {
        Recurrence r = recurrence(existing(f));
        if (i < 0 || i > r.order) {
            throw new IllegalArgumentException("no such factor");
        }
        if (power < 0 || power >= POWERS) {
            throw new IllegalArgumentException("the power is not 0 to 2");
        }
        return replace(f, r.factors, i * POWERS + power, reduce(v));
    }

    public boolean start(int f, int n, long v)
            throws IndexOutOfBoundsException, IllegalArgumentException {
        Sequence s = existing(f);
        checkPlace(n);
        return replace(f, recurrence(s).starts, n, reduce(v));
    }

    public int add(int f, int g) throws IndexOutOfBoundsException, IllegalStateException {
        return combine(Kind.SUM, f, g);
    }

    public int times(int f, int g) throws IndexOutOfBoundsException, IllegalStateException {
        return combine(Kind.PRODUCT, f, g);
    }

    public int convolve(int f, int g) throws IndexOutOfBoundsException, IllegalStateException {
        return combine(Kind.CONVOLUTION, f, g);
    }

    public int weave(int f, int g) throws IndexOutOfBoundsException, IllegalStateException {
        return combine(Kind.WOVEN, f, g);
    }

    public int shift(int f, int k)
            throws IndexOutOfBoundsException, IllegalStateException, IllegalArgumentException {
        Sequence s = existing(f);
        int number = freeNumber();
        if (k < 0 || k > MOST_SHIFT) {
            throw new IllegalArgumentException("the shift is not 0 to 8");
        }
        return keep(number, new Combination(number, Kind.SHIFT, s, s, k));
    }

    public int sums(int f) throws IndexOutOfBoundsException, IllegalStateException {
        return combine(Kind.SUMS, f, f);
    }

    public int derive(int f) throws IndexOutOfBoundsException, IllegalStateException {
        return combine(Kind.SLOPE, f, f);
    }

    public int value(int f, int n) throws IndexOutOfBoundsException {
        Sequence s = existing(f);
        checkPlace(n);
        return freshNumbers(s)[n];
    }

    public int singular(int f) throws IndexOutOfBoundsException, IllegalArgumentException {
        return recurrence(existing(f)).firstSingular();
    }

    public int guess(int f, int order, int degree)
            throws IndexOutOfBoundsException, IllegalArgumentException {
        Sequence s = existing(f);
        if (order < 0 || order > MOST_RULE_ORDER) {
            throw new IllegalArgumentException("the order is not 0 to 4");
        }
        checkDegree(degree);
        return found.find(freshNumbers(s), order, degree);
    }

    public int rule(int k, int i, int j) throws IndexOutOfBoundsException {
        if (k < 0 || k >= found.members) {
            throw new IndexOutOfBoundsException("no such member");
        }
        return found.numberOf(k, i, j);
    }

    public int least(int f, int degree) throws IndexOutOfBoundsException, IllegalArgumentException {
        Sequence s = existing(f);
        checkDegree(degree);
        int[] numbers = freshNumbers(s);
        for (int order = 0; order <= MOST_RULE_ORDER; order++) {
            if (tried.find(numbers, order, degree) > 0) {
                return order;
            }
        }
        return -1;
    }

    public int differ(int f, int g) throws IndexOutOfBoundsException {
        Sequence s = existing(f);
        Sequence t = existing(g);
        int[] ours = freshNumbers(s);
        int[] theirs = freshNumbers(t);
        for (int n = 0; n < PLACES; n++) {
            if (ours[n] != theirs[n]) {
                return n;
            }
        }
        return -1;
    }

    public boolean hangs(int f, int g) throws IndexOutOfBoundsException {
        Sequence s = existing(f);
        existing(g);
        return s.isMadeOf(g);
    }

    public int count() {
        return made;
    }

    private Sequence existing(int f) {
        Sequence s = f >= 0 && f < MOST_SEQUENCES ? sequences[f] : null;
        if (s == null) {
            throw new IndexOutOfBoundsException("no such sequence");
        }
        return s;
    }

    private static Recurrence recurrence(Sequence s) {
        if (s instanceof Recurrence r) {
            return r;
        }
        throw new IllegalArgumentException("not a sequence by a recurrence");
    }

    private static void checkPlace(int n) {
        if (n < 0 || n >= PLACES) {
            throw new IndexOutOfBoundsException("no such place");
        }
    }

    private static void checkDegree(int degree) {
        if (degree < 0 || degree > MOST_RULE_DEGREE) {
            throw new IllegalArgumentException("the degree is not 0 to 3");
        }
    }

    private int freeNumber() {
        if (made >= MOST_SEQUENCES) {
            throw new IllegalStateException("40 sequences are there");
        }
        return made;
    }

    /** The number comes from freeNumber, which looked at it. */
    private int keep(int number, Sequence s) {
        sequences[number] = s;
        made = number + 1;
        return number;
    }

    private int combine(Kind kind, int f, int g) {
        Sequence s = existing(f);
        Sequence t = existing(g);
        int number = freeNumber();
        return keep(number, new Combination(number, kind, s, t, 0));
    }

    private boolean replace(int f, int[] row, int index, int v) {
        if (row[index] == v) {
            return false;
        }
        row[index] = v;
        spoil(f);
        return true;
    }

    /** What hangs on a changed sequence is worked out anew, but only when it is asked for. */
    private void spoil(int f) {
        for (int i = 0; i < MOST_SEQUENCES; i++) {
            Sequence s = sequences[i];
            if (s != null && s.isMadeOf(f)) {
                s.fresh = false;
            }
        }
    }

    /** A sequence's parts have lower numbers than it has, so going upwards parts come first. */
    private int[] freshNumbers(Sequence s) {
        for (int i = 0; i < MOST_SEQUENCES; i++) {
            Sequence part = sequences[i];
            if (part != null && !part.fresh && s.isMadeOf(i)) {
                part.refresh();
            }
        }
        return s.numbers;
    }

    private static int reduce(long v) {
        int rest = (int) (v % MODULUS);
        return rest < 0 ? rest + MODULUS : rest;
    }

    /** Of a and b that aren't below 0. */
    private static int product(int a, int b) {
        return (int) ((long) a * b % MODULUS);
    }

    /** By Fermat: the modulus is a prime, and a is not 0. */
    private static int inverse(int a) {
        int result = 1;
        int square = a;
        for (int e = MODULUS - 2; e > 0; e >>= 1) {
            if ((e & 1) == 1) {
                result = product(result, square);
            }
            square = product(square, square);
        }
        return result;
    }

    private enum Kind { SUM, PRODUCT, CONVOLUTION, WOVEN, SHIFT, SUMS, SLOPE }

    private abstract static class Sequence {
        final int[] numbers = new int[PLACES];
        boolean fresh;

        /** A bit for each sequence that this one is made of, and its own. */
        final long parts;

        Sequence(int number, long parts) {
            this.parts = parts | 1L << number;
        }

        /** The number at n, 0 .. 63, when those ahead of n and those of all parts are known. */
        abstract int numberAt(int n);

        final void refresh() {
            for (int n = 0; n < PLACES; n++) {
                numbers[n] = numberAt(n);
            }
            fresh = true;
        }

        final boolean isMadeOf(int f) {
            return (parts >> f & 1L) == 1L;
        }
    }

    private static final class Recurrence extends Sequence {
        final int order;
        final int[] factors;
        final int[] starts = new int[PLACES];

        Recurrence(int number, int order) {
            super(number, 0L);
            this.order = order;
            this.factors = new int[(order + 1) * POWERS];
        }

        @Override
        int numberAt(int n) {
            int place = n - order;
            int divisor = place < 0 ? 0 : factorAt(order, place);
            if (divisor == 0) {
                return starts[n];
            }
            long sum = 0;
            for (int i = 0; i < order; i++) {
                sum += (long) factorAt(i, place) * numbers[place + i];
            }
            return product(reduce(-sum), inverse(divisor));
        }

        int firstSingular() {
            for (int n = order; n < PLACES; n++) {
                if (factorAt(order, n - order) == 0) {
                    return n;
                }
            }
            return -1;
        }

        private int factorAt(int i, int place) {
            int first = i * POWERS;
            long high = (long) factors[first + 2] * place + factors[first + 1];
            return reduce(high * place + factors[first]);
        }
    }

    /** A sequence made of others, f and g; those made of one have it as both. */
    private static final class Combination extends Sequence {
        private final Kind kind;
        private final int[] f;
        private final int[] g;
        private final int distance;

        Combination(int number, Kind kind, Sequence s, Sequence t, int distance) {
            super(number, s.parts | t.parts);
            this.kind = kind;
            this.f = s.numbers;
            this.g = t.numbers;
            this.distance = distance;
        }

        @Override
        int numberAt(int n) {
            switch (kind) {
                case SUM:
                    return reduce((long) f[n] + g[n]);
                case PRODUCT:
                    return product(f[n], g[n]);
                case CONVOLUTION:
                    return convolution(n);
                case WOVEN:
                    return n % 2 == 0 ? f[n / 2] : g[(n - 1) / 2];
                case SHIFT:
                    return n + distance < PLACES ? f[n + distance] : 0;
                case SUMS:
                    return n == 0 ? f[0] : reduce((long) numbers[n - 1] + f[n]);
                case SLOPE:
                    return n + 1 < PLACES ? product(n + 1, f[n + 1]) : 0;
                default:
                    return 0;
            }
        }

        private int convolution(int n) {
            long sum = 0;
            for (int i = 0; i <= n; i++) {
                sum += (long) f[i] * g[n - i];
            }
            return reduce(sum);
        }
    }

    /**
     * The RULES of one order and degree that HOLD for a row of numbers. Each place asks one linear
     * equation of a rule's numbers. COLUMNS are held in the document's order turned round, (0, 0)
     * first: solving the equations so that each column is told by later ones leaves free just the
     * columns at which members of the BASE begin.
     */
    private static final class Rules {
        /** The equation that begins at column c, with 1 there, stands in row c if led[c]. */
        private final int[][] equations = new int[MOST_COLUMNS][MOST_COLUMNS];
        private final boolean[] led = new boolean[MOST_COLUMNS];
        private final int[] row = new int[MOST_COLUMNS];
        private final int[] begins = new int[MOST_COLUMNS];
        private int order;
        private int degree;
        private int columns;
        private int members;

        /** The order is 0 .. 4, the degree 0 .. 3; answers how many members the BASE has. */
        int find(int[] numbers, int ruleOrder, int ruleDegree) {
            order = ruleOrder;
            degree = ruleDegree;
            columns = (order + 1) * (degree + 1);
            members = columns;
            for (int c = 0; c < columns; c++) {
                led[c] = false;
            }
            for (int n = 0; n < PLACES - order && members > 0; n++) {
                writeEquation(numbers, n);
                takeEquation();
            }
            clearLedColumns();
            listBegins();
            return members;
        }

        int numberOf(int k, int i, int j) {
            if (i < 0 || i > order || j < 0 || j > degree) {
                return 0;
            }
            int column = i * (degree + 1) + j;
            int begin = begins[k];
            if (column == begin) {
                return 1;
            }
            return column < begin && led[column] ? reduce(-equations[column][begin]) : 0;
        }

        private void writeEquation(int[] numbers, int n) {
            int c = 0;
            for (int i = 0; i <= order; i++) {
                int term = numbers[n + i];
                for (int j = 0; j <= degree; j++) {
                    row[c] = term;
                    term = product(term, n);
                    c++;
                }
            }
        }

        /** An equation that the ones ahead don't imply takes away one member. */
        private void takeEquation() {
            for (int c = 0; c < columns; c++) {
                if (row[c] != 0 && !led[c]) {
                    lead(c);
                    return;
                }
                if (row[c] != 0) {
                    subtract(row, row[c], c);
                }
            }
        }

        private void lead(int c) {
            int scale = inverse(row[c]);
            for (int x = c; x < columns; x++) {
                equations[c][x] = product(scale, row[x]);
            }
            led[c] = true;
            members--;
        }

        private void subtract(int[] from, int multiple, int c) {
            for (int x = c; x < columns; x++) {
                from[x] = reduce(from[x] - (long) multiple * equations[c][x]);
            }
        }

        /** From the last on, so that what is subtracted has no led column but its own. */
        private void clearLedColumns() {
            for (int c = columns - 1; c > 0; c--) {
                for (int upper = 0; upper < c && led[c]; upper++) {
                    if (led[upper] && equations[upper][c] != 0) {
                        subtract(equations[upper], equations[upper][c], c);
                    }
                }
            }
        }

        private void listBegins() {
            int k = 0;
            for (int c = columns - 1; c >= 0; c--) {
                if (!led[c]) {
                    begins[k] = c;
                    k++;
                }
            }
        }
    }
}
