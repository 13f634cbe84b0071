import java.util.ArrayList;
import java.util.List;

/**
 * Every refused call: which exception is thrown, which of several comes first, and that then
 * nothing changes: a twin that never got the refused call answers all later questions alike.
 */
public final class RefusalTests {
    private static final String NO_INDEX = "throws.IndexOutOfBoundsException";
    private static final String NO_STATE = "throws.IllegalStateException";
    private static final String NO_ARGUMENT = "throws.IllegalArgumentException";
    private static final int LOWEST = Integer.MIN_VALUE;
    private static final int HIGHEST = Integer.MAX_VALUE;

    /** In what some() makes: two in use by recurrences, an idle one, and one of each other kind. */
    private static final int ORDER_2 = 0;
    private static final int ORDER_1 = 1;
    private static final int ORDER_3 = 2;
    private static final int FIRST_MADE = 3;
    private static final int SOME = 10;

    /** None of these is there among SOME; 10 is the next one, and 64 is 0 to a shift of a long. */
    private static final int[] NO_SEQUENCE = {-1, SOME, 39, 40, 64, LOWEST, HIGHEST};
    /** None of these is there when 40 are. */
    private static final int[] NEVER_A_SEQUENCE = {-1, 40, 41, 64, LOWEST, HIGHEST};
    private static final int[] NO_PLACE = {-1, 64, 65, LOWEST, HIGHEST};

    private interface Setup {
        void run(HolonomicRows x);
    }

    private interface Call {
        Object run(HolonomicRows x);
    }

    /** A call of a method with a wrong argument in it. */
    private interface CallWith {
        Object run(HolonomicRows x, int wrong);
    }

    private static int wrong;
    private static int cases;

    private static void empty(HolonomicRows x) {
    }

    private static void some(HolonomicRows x) {
        x.function(2);
        for (int i = 0; i <= 2; i++) {
            for (int power = 0; power <= 2; power++) {
                x.factor(ORDER_2, i, power, 1 + 7 * i + 3 * power);
            }
        }
        for (int n = 0; n < 6; n++) {
            x.start(ORDER_2, n, 11 + n);
        }
        x.start(ORDER_2, 63, 5);
        x.function(1);
        x.factor(ORDER_1, 0, 0, -2);
        x.factor(ORDER_1, 1, 0, 1);
        x.start(ORDER_1, 0, 1);
        x.function(3);
        x.add(0, 1);
        x.times(0, 1);
        x.convolve(0, 1);
        x.weave(0, 1);
        x.shift(0, 8);
        x.sums(1);
        x.derive(0);
        x.guess(ORDER_1, 1, 1);
    }

    private static void full(HolonomicRows x) {
        some(x);
        for (int made = SOME; made < 40; made++) {
            x.function(1);
        }
    }

    private static String answer(HolonomicRows x, Call call) {
        try {
            return String.valueOf(call.run(x));
        } catch (RuntimeException e) {
            return "throws." + e.getClass().getSimpleName();
        }
    }

    /** What can be seen of an object, in fewer calls than it may still get. */
    private static List<String> portrait(HolonomicRows x) {
        List<String> seen = new ArrayList<>();
        seen.add("count " + x.count());
        for (int c = 0; c < 12; c++) {
            int at = c;
            seen.add("rule " + c + " " + answer(x, y -> y.rule(at / 4, at / 2 % 2, at % 2)));
        }
        for (int f = 0; f <= 40; f++) {
            int number = f;
            for (int n : new int[] {0, 1, 3, 63}) {
                seen.add("value " + f + " " + n + " " + answer(x, y -> y.value(number, n)));
            }
            seen.add("singular " + f + " " + answer(x, y -> y.singular(number)));
        }
        seen.addAll(startsSeen(x, ORDER_2, 2));
        seen.addAll(startsSeen(x, ORDER_3, 3));
        return seen;
    }

    /** With 0 for the last factor all numbers are starts; this spoils what is looked at. */
    private static List<String> startsSeen(HolonomicRows x, int f, int order) {
        List<String> seen = new ArrayList<>();
        for (int power = 0; power <= 2; power++) {
            int at = power;
            seen.add("last factor " + power + " " + answer(x, y -> y.factor(f, order, at, 0)));
        }
        for (int n = 0; n < 64; n++) {
            int place = n;
            seen.add("start " + f + " " + n + " " + answer(x, y -> y.value(f, place)));
        }
        return seen;
    }

    private static void complain(String text) {
        wrong++;
        System.out.println(text);
    }

    private static void refused(String what, Setup setup, Call call, String exception) {
        cases++;
        HolonomicRows x = new HolonomicRows();
        HolonomicRows twin = new HolonomicRows();
        try {
            setup.run(x);
            setup.run(twin);
        } catch (RuntimeException e) {
            complain(what + ": a call ahead of it throws " + e);
            return;
        }
        String got = answer(x, call);
        if (!got.equals(exception)) {
            complain(what + " answered " + got + ", due is " + exception);
        }
        List<String> ours = portrait(x);
        List<String> theirs = portrait(twin);
        for (int i = 0; i < theirs.size(); i++) {
            if (!ours.get(i).equals(theirs.get(i))) {
                complain(what + " changes: " + ours.get(i) + ", due is " + theirs.get(i));
                return;
            }
        }
    }

    private static void each(String what, Setup setup, int[] wrongs, CallWith call, String exception) {
        for (int w : wrongs) {
            refused(what + " with " + w, setup, x -> call.run(x, w), exception);
        }
    }

    /** A sequence that isn't there, among none, some and 40. */
    private static void noSequence(String what, CallWith call) {
        each(what + ", none are there", RefusalTests::empty, new int[] {0, -1, 1}, call, NO_INDEX);
        each(what + ", some are there", RefusalTests::some, NO_SEQUENCE, call, NO_INDEX);
        each(what + ", 40 are there", RefusalTests::full, NEVER_A_SEQUENCE, call, NO_INDEX);
    }

    private static void function() {
        int[] orders = {0, -1, 4, 5, LOWEST, HIGHEST};
        each("function, order", RefusalTests::some, orders, HolonomicRows::function, NO_ARGUMENT);
        each("function, order, the first call", RefusalTests::empty, orders, HolonomicRows::function,
                NO_ARGUMENT);
        each("function, 40 are there, order", RefusalTests::full, new int[] {1, 2, 3},
                HolonomicRows::function, NO_STATE);
        each("function, 40 are there, wrong order", RefusalTests::full, orders,
                HolonomicRows::function, NO_STATE);
    }

    private static void factor() {
        noSequence("factor, f", (x, f) -> x.factor(f, 0, 0, 1));
        each("factor, f and no such i", RefusalTests::some, NO_SEQUENCE,
                (x, f) -> x.factor(f, -1, 0, 1), NO_INDEX);
        each("factor, f and no such power", RefusalTests::some, NO_SEQUENCE,
                (x, f) -> x.factor(f, 0, 3, 1), NO_INDEX);
        for (int made = FIRST_MADE; made < SOME; made++) {
            int f = made;
            refused("factor of the made one " + f, RefusalTests::some,
                    x -> x.factor(f, 0, 0, 1), NO_ARGUMENT);
        }
        each("factor of order 1, i", RefusalTests::some, new int[] {-1, 2, 3, LOWEST, HIGHEST},
                (x, i) -> x.factor(ORDER_1, i, 0, 9), NO_ARGUMENT);
        each("factor of order 2, i", RefusalTests::some, new int[] {-1, 3, 4, LOWEST, HIGHEST},
                (x, i) -> x.factor(ORDER_2, i, 0, 9), NO_ARGUMENT);
        each("factor of order 3, i", RefusalTests::some, new int[] {-1, 4, 5, LOWEST, HIGHEST},
                (x, i) -> x.factor(ORDER_3, i, 0, 9), NO_ARGUMENT);
        int[] powers = {-1, 3, 4, LOWEST, HIGHEST};
        each("factor 0, power", RefusalTests::some, powers,
                (x, power) -> x.factor(ORDER_2, 0, power, 9), NO_ARGUMENT);
        each("factor 1, power", RefusalTests::some, powers,
                (x, power) -> x.factor(ORDER_2, 1, power, 9), NO_ARGUMENT);
        each("the last factor, power", RefusalTests::some, powers,
                (x, power) -> x.factor(ORDER_2, 2, power, 9), NO_ARGUMENT);
    }

    private static void start() {
        noSequence("start, f", (x, f) -> x.start(f, 0, 1));
        each("start, f and no place", RefusalTests::some, NO_SEQUENCE,
                (x, f) -> x.start(f, 64, 1), NO_INDEX);
        each("start, place", RefusalTests::some, NO_PLACE,
                (x, n) -> x.start(ORDER_2, n, 77), NO_INDEX);
        for (int made = FIRST_MADE; made < SOME; made++) {
            int f = made;
            refused("start of the made one " + f, RefusalTests::some,
                    x -> x.start(f, 0, 1), NO_ARGUMENT);
            each("start of the made one " + f + ", place", RefusalTests::some, NO_PLACE,
                    (x, n) -> x.start(f, n, 1), NO_INDEX);
        }
    }

    private static void fullAt(String what, Call call) {
        refused(what + ", 40 are there", RefusalTests::full, call, NO_STATE);
    }

    private static void combinations() {
        noSequence("add, f", (x, f) -> x.add(f, 0));
        noSequence("add, g", (x, g) -> x.add(0, g));
        noSequence("add, both", (x, f) -> x.add(f, f));
        fullAt("add", x -> x.add(0, 39));
        noSequence("times, f", (x, f) -> x.times(f, 0));
        noSequence("times, g", (x, g) -> x.times(0, g));
        noSequence("times, both", (x, f) -> x.times(f, f));
        fullAt("times", x -> x.times(0, 39));
        noSequence("convolve, f", (x, f) -> x.convolve(f, 0));
        noSequence("convolve, g", (x, g) -> x.convolve(0, g));
        noSequence("convolve, both", (x, f) -> x.convolve(f, f));
        fullAt("convolve", x -> x.convolve(0, 39));
        noSequence("weave, f", (x, f) -> x.weave(f, 0));
        noSequence("weave, g", (x, g) -> x.weave(0, g));
        noSequence("weave, both", (x, f) -> x.weave(f, f));
        fullAt("weave", x -> x.weave(0, 39));
        noSequence("sums", (x, f) -> x.sums(f));
        fullAt("sums", x -> x.sums(39));
        noSequence("derive", (x, f) -> x.derive(f));
        fullAt("derive", x -> x.derive(39));
    }

    private static void shift() {
        int[] shifts = {-1, 9, 10, LOWEST, HIGHEST};
        noSequence("shift, f", (x, f) -> x.shift(f, 0));
        noSequence("shift by 9, f", (x, f) -> x.shift(f, 9));
        noSequence("shift by -1, f", (x, f) -> x.shift(f, -1));
        fullAt("shift", x -> x.shift(0, 8));
        each("shift, k", RefusalTests::some, shifts, (x, k) -> x.shift(0, k), NO_ARGUMENT);
        each("shift, 40 are there, k", RefusalTests::full, shifts, (x, k) -> x.shift(0, k), NO_STATE);
    }

    private static void numbers() {
        noSequence("value, f", (x, f) -> x.value(f, 0));
        each("value by a recurrence, place", RefusalTests::some, NO_PLACE,
                (x, n) -> x.value(ORDER_2, n), NO_INDEX);
        each("value of a woven one, place", RefusalTests::some, NO_PLACE,
                (x, n) -> x.value(6, n), NO_INDEX);
        each("value of a shift, place", RefusalTests::some, NO_PLACE,
                (x, n) -> x.value(7, n), NO_INDEX);
        refused("value, no sequence and no place", RefusalTests::some,
                x -> x.value(SOME, 64), NO_INDEX);
        noSequence("singular", (x, f) -> x.singular(f));
        for (int made = FIRST_MADE; made < SOME; made++) {
            int f = made;
            refused("singular of the made one " + f, RefusalTests::some,
                    x -> x.singular(f), NO_ARGUMENT);
        }
        noSequence("differ, f", (x, f) -> x.differ(f, 0));
        noSequence("differ, g", (x, g) -> x.differ(0, g));
        noSequence("differ, both", (x, f) -> x.differ(f, f));
        noSequence("hangs, f", (x, f) -> x.hangs(f, 0));
        noSequence("hangs, g", (x, g) -> x.hangs(0, g));
        noSequence("hangs, both", (x, f) -> x.hangs(f, f));
    }

    private static void rules() {
        int[] orders = {-1, 5, 6, LOWEST, HIGHEST};
        int[] degrees = {-1, 4, 5, LOWEST, HIGHEST};
        noSequence("guess, f", (x, f) -> x.guess(f, 1, 1));
        noSequence("guess of no such order, f", (x, f) -> x.guess(f, 5, 1));
        noSequence("guess of no such degree, f", (x, f) -> x.guess(f, 1, 4));
        each("guess, order", RefusalTests::some, orders, (x, r) -> x.guess(ORDER_2, r, 0), NO_ARGUMENT);
        each("guess, degree", RefusalTests::some, degrees, (x, d) -> x.guess(ORDER_2, 0, d),
                NO_ARGUMENT);
        refused("guess, neither order nor degree", RefusalTests::some,
                x -> x.guess(ORDER_3, 5, 4), NO_ARGUMENT);
        noSequence("least, f", (x, f) -> x.least(f, 0));
        noSequence("least of no such degree, f", (x, f) -> x.least(f, 4));
        each("least, degree", RefusalTests::some, degrees, (x, d) -> x.least(ORDER_2, d), NO_ARGUMENT);
        each("rule, nothing found, member", RefusalTests::empty, new int[] {0, -1, 1, LOWEST, HIGHEST},
                (x, k) -> x.rule(k, 0, 0), NO_INDEX);
        each("rule, 2 members found, member", RefusalTests::some, new int[] {-1, 2, 3, LOWEST, HIGHEST},
                (x, k) -> x.rule(k, 0, 0), NO_INDEX);
        each("rule, no member and no such i, j", RefusalTests::some, new int[] {-1, 2},
                (x, k) -> x.rule(k, -1, 9), NO_INDEX);
        refused("rule, none found by a refused guess", x -> {
            x.function(1);
            answer(x, y -> y.guess(0, 5, 0));
        }, x -> x.rule(0, 0, 0), NO_INDEX);
        refused("rule, a base without members", x -> {
            some(x);
            x.guess(ORDER_1, 0, 0);
        }, x -> x.rule(0, 0, 0), NO_INDEX);
    }

    public static void main(String[] args) {
        function();
        factor();
        start();
        combinations();
        shift();
        numbers();
        rules();
        System.out.println(wrong == 0 ? "all " + cases + " refused calls are as due"
                : wrong + " refused calls are not as due");
        if (wrong != 0) {
            System.exit(1);
        }
    }
}
