import java.math.BigInteger;
import java.util.ArrayList;
import java.util.List;
import java.util.Random;

/**
 * Long runs of calls, right and wrong ones, beside a model that works out every answer from the
 * document's words alone: it keeps no numbers, and finds a BASE by another way than the class.
 */
public final class ModelTests {
    private static final int MODULUS = 32003;
    private static final int PLACES = 64;
    private static final int RUNS = 500;
    private static final int CALLS = 512;
    private static final String NO_INDEX = "throws.IndexOutOfBoundsException";
    private static final String NO_STATE = "throws.IllegalStateException";
    private static final String NO_ARGUMENT = "throws.IllegalArgumentException";

    private static long mod(long v) {
        return ((v % MODULUS) + MODULUS) % MODULUS;
    }

    private static long inverse(long v) {
        return BigInteger.valueOf(v).modInverse(BigInteger.valueOf(MODULUS)).longValue();
    }

    private static final class Node {
        String kind;
        int f;
        int g;
        int k;
        int order;
        long[][] factors;
        long[] starts;
    }

    private static final class Model {
        final List<Node> nodes = new ArrayList<>();
        List<long[]> base = new ArrayList<>();
        int order;
        int degree;

        boolean none(int f) {
            return f < 0 || f >= nodes.size();
        }

        boolean recurrence(int f) {
            return nodes.get(f).kind.equals("function");
        }

        boolean full() {
            return nodes.size() == 40;
        }

        String make(String kind, int f, int g, int k) {
            Node node = new Node();
            node.kind = kind;
            node.f = f;
            node.g = g;
            node.k = k;
            nodes.add(node);
            return "" + (nodes.size() - 1);
        }

        long[] numbers(int f) {
            return numbers(f, new long[nodes.size()][]);
        }

        long[] numbers(int f, long[][] known) {
            if (known[f] == null) {
                Node node = nodes.get(f);
                known[f] = node.kind.equals("function") ? byRecurrence(node)
                        : combined(node, numbers(node.f, known), numbers(node.g, known));
            }
            return known[f];
        }

        long at(long[] p, long place) {
            return mod(p[0] + mod(p[1] * place) + mod(p[2] * place * place));
        }

        long[] byRecurrence(Node node) {
            long[] a = node.starts.clone();
            for (int n = node.order; n < PLACES; n++) {
                long last = at(node.factors[node.order], n - node.order);
                long sum = 0;
                for (int i = 0; i < node.order; i++) {
                    sum = mod(sum + at(node.factors[i], n - node.order) * a[n - node.order + i]);
                }
                if (last != 0) {
                    a[n] = mod(mod(-sum) * inverse(last));
                }
            }
            return a;
        }

        long[] combined(Node node, long[] f, long[] g) {
            long[] a = new long[PLACES];
            for (int n = 0; n < PLACES; n++) {
                switch (node.kind) {
                    case "add": a[n] = mod(f[n] + g[n]); break;
                    case "times": a[n] = mod(f[n] * g[n]); break;
                    case "weave": a[n] = (n % 2 == 0 ? f : g)[n / 2]; break;
                    case "shift": a[n] = n + node.k > 63 ? 0 : f[n + node.k]; break;
                    case "derive": a[n] = n == 63 ? 0 : mod((n + 1) * f[n + 1]); break;
                    default:
                        for (int i = 0; i <= n; i++) {
                            a[n] = mod(a[n] + (node.kind.equals("sums") ? f[i] : f[i] * g[n - i]));
                        }
                }
            }
            return a;
        }

        boolean hangs(int f, int g) {
            boolean[] reached = new boolean[nodes.size()];
            reached[f] = true;
            for (int i = f; i >= 0; i--) {
                if (reached[i] && !recurrence(i)) {
                    reached[nodes.get(i).f] = true;
                    reached[nodes.get(i).g] = true;
                }
            }
            return reached[g];
        }

        int singular(Node node) {
            for (int n = node.order; n < PLACES; n++) {
                if (at(node.factors[node.order], n - node.order) == 0) {
                    return n;
                }
            }
            return -1;
        }
    }

    /** Gauss and Jordan; the rows that stay, each with 1 at its first column. */
    private static List<long[]> reduced(List<long[]> rows, int columns) {
        List<long[]> left = new ArrayList<>(rows);
        List<long[]> done = new ArrayList<>();
        for (int c = 0; c < columns; c++) {
            long[] pivot = null;
            for (long[] row : left) {
                if (row[c] != 0) {
                    pivot = row;
                    break;
                }
            }
            if (pivot == null) {
                continue;
            }
            left.remove(pivot);
            long scale = inverse(pivot[c]);
            for (int x = 0; x < columns; x++) {
                pivot[x] = mod(pivot[x] * scale);
            }
            clear(left, pivot, c);
            clear(done, pivot, c);
            done.add(pivot);
        }
        return done;
    }

    private static void clear(List<long[]> rows, long[] pivot, int c) {
        for (long[] row : rows) {
            long t = row[c];
            for (int x = 0; x < pivot.length && t != 0; x++) {
                row[x] = mod(row[x] - t * pivot[x]);
            }
        }
    }

    private static int first(long[] row) {
        int c = 0;
        while (row[c] == 0) {
            c++;
        }
        return c;
    }

    /** In the document's order of columns: equations, any solutions, then the solutions reduced. */
    private static List<long[]> base(long[] a, int order, int degree) {
        int columns = (order + 1) * (degree + 1);
        List<long[]> equations = new ArrayList<>();
        for (int n = 0; n <= 63 - order; n++) {
            long[] row = new long[columns];
            int c = 0;
            for (int i = order; i >= 0; i--) {
                for (int j = degree; j >= 0; j--) {
                    row[c++] = mod(BigInteger.valueOf(n).pow(j).longValue() * a[n + i]);
                }
            }
            equations.add(row);
        }
        List<long[]> told = reduced(equations, columns);
        boolean[] led = new boolean[columns];
        for (long[] row : told) {
            led[first(row)] = true;
        }
        List<long[]> solutions = new ArrayList<>();
        for (int c = 0; c < columns; c++) {
            if (!led[c]) {
                long[] solution = new long[columns];
                solution[c] = 1;
                for (long[] row : told) {
                    solution[first(row)] = mod(-row[c]);
                }
                solutions.add(solution);
            }
        }
        return reduced(solutions, columns);
    }

    private static int wrong;

    private final Random random;
    private final Model model = new Model();
    private final HolonomicRows x = new HolonomicRows();
    private final int[] orders = {0, 1, 1, 2, 2, 3, 4};
    private String call = "";
    private int calls;

    private ModelTests(long seed) {
        random = new Random(seed);
    }

    private int pick(int low, int high) {
        return low + random.nextInt(high - low + 1);
    }

    private int aSequence() {
        int size = model.nodes.size();
        int chance = random.nextInt(40);
        if (chance == 0) {
            return new int[] {-1, size, 40, 64, Integer.MIN_VALUE, Integer.MAX_VALUE}[pick(0, 5)];
        }
        return size == 0 ? 0 : chance < 10 ? size - 1 : random.nextInt(size);
    }

    private int within(int low, int high) {
        return random.nextInt(20) == 0 ? (random.nextBoolean() ? low - 1 : high + 1) : pick(low, high);
    }

    private long aNumber() {
        switch (random.nextInt(8)) {
            case 0: return random.nextLong();
            case 1: return random.nextInt();
            case 2: return Long.MIN_VALUE;
            case 3: return 0;
            default: return pick(-5, 5);
        }
    }

    private void due(String said, Object got, String want) {
        if (!String.valueOf(got).equals(want) && wrong++ < 20) {
            System.out.println(said + " answered " + got + ", due is " + want);
        }
    }

    private interface Call {
        Object run();
    }

    private void check(String want, Call c) {
        // What calls after the 512th answer is free.
        if (calls >= CALLS) {
            return;
        }
        calls++;
        Object got;
        try {
            got = c.run();
        } catch (RuntimeException e) {
            got = "throws." + e.getClass().getSimpleName();
        }
        due(call, got, want);
    }

    private void function() {
        int order = within(1, 3);
        call = "function(" + order + ")";
        String want;
        if (model.full()) {
            want = NO_STATE;
        } else if (order < 1 || order > 3) {
            want = NO_ARGUMENT;
        } else {
            want = model.make("function", 0, 0, 0);
            Node node = model.nodes.get(model.nodes.size() - 1);
            node.order = order;
            node.factors = new long[order + 1][3];
            node.starts = new long[PLACES];
        }
        check(want, () -> x.function(order));
    }

    private void factor() {
        int f = aSequence();
        int i = within(0, 3);
        int power = random.nextInt(3) == 0 ? within(0, 2) : 0;
        long v = aNumber();
        call = "factor(" + f + ", " + i + ", " + power + ", " + v + ")";
        String want;
        if (model.none(f)) {
            want = NO_INDEX;
        } else if (!model.recurrence(f) || i < 0 || i > model.nodes.get(f).order
                || power < 0 || power > 2) {
            want = NO_ARGUMENT;
        } else {
            long[] p = model.nodes.get(f).factors[i];
            want = "" + (p[power] != mod(v));
            p[power] = mod(v);
        }
        check(want, () -> x.factor(f, i, power, v));
    }

    private void start() {
        int f = aSequence();
        int n = random.nextInt(3) == 0 ? within(0, 63) : pick(0, 4);
        long v = aNumber();
        call = "start(" + f + ", " + n + ", " + v + ")";
        String want;
        if (model.none(f) || n < 0 || n > 63) {
            want = NO_INDEX;
        } else if (!model.recurrence(f)) {
            want = NO_ARGUMENT;
        } else {
            long[] starts = model.nodes.get(f).starts;
            want = "" + (starts[n] != mod(v));
            starts[n] = mod(v);
        }
        check(want, () -> x.start(f, n, v));
    }

    private void combine() {
        String kind = new String[] {"add", "times", "convolve", "weave", "sums", "derive"}[pick(0, 5)];
        int f = aSequence();
        boolean single = kind.equals("sums") || kind.equals("derive");
        int g = single ? f : aSequence();
        call = kind + "(" + f + ", " + g + ")";
        String want = model.none(f) || model.none(g) ? NO_INDEX
                : model.full() ? NO_STATE : model.make(kind, f, g, 0);
        check(want, () -> {
            switch (kind) {
                case "add": return x.add(f, g);
                case "times": return x.times(f, g);
                case "convolve": return x.convolve(f, g);
                case "weave": return x.weave(f, g);
                case "sums": return x.sums(f);
                default: return x.derive(f);
            }
        });
    }

    private void shift() {
        int f = aSequence();
        int k = within(0, 8);
        call = "shift(" + f + ", " + k + ")";
        String want = model.none(f) ? NO_INDEX : model.full() ? NO_STATE
                : k < 0 || k > 8 ? NO_ARGUMENT : model.make("shift", f, f, k);
        check(want, () -> x.shift(f, k));
    }

    private void value() {
        int f = aSequence();
        int n = within(0, 63);
        call = "value(" + f + ", " + n + ")";
        String want = model.none(f) || n < 0 || n > 63 ? NO_INDEX : "" + model.numbers(f)[n];
        check(want, () -> x.value(f, n));
    }

    private void singular() {
        int f = aSequence();
        call = "singular(" + f + ")";
        String want = model.none(f) ? NO_INDEX : !model.recurrence(f) ? NO_ARGUMENT
                : "" + model.singular(model.nodes.get(f));
        check(want, () -> x.singular(f));
    }

    private void guess() {
        int f = aSequence();
        int order = random.nextInt(20) == 0 ? within(0, 4) : orders[pick(0, 6)];
        int degree = within(0, 3);
        call = "guess(" + f + ", " + order + ", " + degree + ")";
        String want;
        if (model.none(f)) {
            want = NO_INDEX;
        } else if (order < 0 || order > 4 || degree < 0 || degree > 3) {
            want = NO_ARGUMENT;
        } else {
            model.base = base(model.numbers(f), order, degree);
            model.order = order;
            model.degree = degree;
            want = "" + model.base.size();
        }
        check(want, () -> x.guess(f, order, degree));
        if (random.nextInt(8) == 0) {
            readAllRules();
        }
    }

    private void readAllRules() {
        for (int k = 0; k <= model.base.size(); k++) {
            for (int i = -1; i <= model.order + 1; i++) {
                for (int j = -1; j <= model.degree + 1; j++) {
                    readRule(k, i, j);
                }
            }
        }
    }

    private void readRule(int k, int i, int j) {
        call = "rule(" + k + ", " + i + ", " + j + ")";
        String want;
        if (k < 0 || k >= model.base.size()) {
            want = NO_INDEX;
        } else if (i < 0 || i > model.order || j < 0 || j > model.degree) {
            want = "0";
        } else {
            int column = (model.order - i) * (model.degree + 1) + model.degree - j;
            want = "" + model.base.get(k)[column];
        }
        check(want, () -> x.rule(k, i, j));
    }

    private void least() {
        int f = aSequence();
        int degree = within(0, 3);
        call = "least(" + f + ", " + degree + ")";
        String want;
        if (model.none(f)) {
            want = NO_INDEX;
        } else if (degree < 0 || degree > 3) {
            want = NO_ARGUMENT;
        } else {
            int order = 0;
            while (order <= 4 && base(model.numbers(f), order, degree).isEmpty()) {
                order++;
            }
            want = "" + (order > 4 ? -1 : order);
        }
        check(want, () -> x.least(f, degree));
    }

    private void differ() {
        int f = aSequence();
        int g = aSequence();
        call = "differ(" + f + ", " + g + ")";
        String want = NO_INDEX;
        if (!model.none(f) && !model.none(g)) {
            long[] a = model.numbers(f);
            long[] b = model.numbers(g);
            int n = 0;
            while (n < PLACES && a[n] == b[n]) {
                n++;
            }
            want = "" + (n == PLACES ? -1 : n);
        }
        check(want, () -> x.differ(f, g));
    }

    private void hangs() {
        int f = aSequence();
        int g = aSequence();
        call = "hangs(" + f + ", " + g + ")";
        String want = model.none(f) || model.none(g) ? NO_INDEX : "" + model.hangs(f, g);
        check(want, () -> x.hangs(f, g));
    }

    private void next() {
        int chance = random.nextInt(100);
        if (chance < 3 || model.nodes.isEmpty()) {
            function();
        } else if (chance < 20) {
            factor();
        } else if (chance < 35) {
            start();
        } else if (chance < 41) {
            combine();
        } else if (chance < 43) {
            shift();
        } else if (chance < 63) {
            value();
        } else if (chance < 67) {
            singular();
        } else if (chance < 77) {
            guess();
        } else if (chance < 83) {
            readRule(within(0, 3), within(0, 2), within(0, 2));
        } else if (chance < 89) {
            least();
        } else if (chance < 94) {
            differ();
        } else if (chance < 98) {
            hangs();
        } else {
            call = "count()";
            check("" + model.nodes.size(), x::count);
        }
    }

    public static void main(String[] args) {
        for (int run = 0; run < RUNS; run++) {
            ModelTests test = new ModelTests(run);
            while (test.calls < CALLS) {
                test.next();
            }
        }
        System.out.println(wrong == 0 ? "all answers are as due" : wrong + " answers are not as due");
        if (wrong != 0) {
            System.exit(1);
        }
    }
}
