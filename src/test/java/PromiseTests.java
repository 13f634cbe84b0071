/** Promise by promise: ordinary inputs, the edges that the document names, and wrong inputs. */
public final class PromiseTests {
    private static final String NO_INDEX = "throws.IndexOutOfBoundsException";
    private static final String NO_STATE = "throws.IllegalStateException";
    private static final String NO_ARGUMENT = "throws.IllegalArgumentException";
    private static final int MODULUS = 32003;

    private interface Call {
        Object run();
    }

    private static int wrong;

    private static void due(String call, Call c, Object want) {
        String got;
        try {
            got = String.valueOf(c.run());
        } catch (RuntimeException e) {
            got = "throws." + e.getClass().getSimpleName();
        }
        if (!got.equals(String.valueOf(want))) {
            wrong++;
            System.out.println(call + " answered " + got + ", due is " + want);
        }
    }

    /** A sequence of order 1 whose numbers are all starts, since its factors are 0. */
    private static int listed(HolonomicRows x, long... numbers) {
        int f = x.function(1);
        for (int n = 0; n < numbers.length; n++) {
            x.start(f, n, numbers[n]);
        }
        return f;
    }

    private static int powers(HolonomicRows x, long base) {
        int f = x.function(1);
        x.factor(f, 0, 0, -base);
        x.factor(f, 1, 0, 1);
        x.start(f, 0, 1);
        return f;
    }

    private static int fibonacci(HolonomicRows x) {
        int f = x.function(2);
        x.factor(f, 0, 0, 1);
        x.factor(f, 1, 0, 1);
        x.factor(f, 2, 0, -1);
        x.start(f, 1, 1);
        return f;
    }

    private static int factorials(HolonomicRows x) {
        int f = x.function(1);
        x.factor(f, 0, 0, -1);
        x.factor(f, 0, 1, -1);
        x.factor(f, 1, 0, 1);
        x.start(f, 0, 1);
        return f;
    }

    private static void fill(HolonomicRows x) {
        while (x.count() < 40) {
            x.function(1);
        }
    }

    private static void dueNumbers(String what, HolonomicRows x, int f, long... want) {
        for (int n = 0; n < want.length; n++) {
            int place = n;
            due(what + " at " + n, () -> x.value(f, place), want[n]);
        }
    }

    /** Members of the base found latest, each as c 0 0, c 0 1 .. c r d. */
    private static void dueRule(String what, HolonomicRows x, int k, int degree, long... want) {
        for (int c = 0; c < want.length; c++) {
            int i = c / (degree + 1);
            int j = c % (degree + 1);
            due(what + ", rule " + k + " " + i + " " + j, () -> x.rule(k, i, j),
                    Math.floorMod(want[c], (long) MODULUS));
        }
    }

    private static void promise1NewObject() {
        HolonomicRows x = new HolonomicRows();
        due("1: count", x::count, 0);
        due("1: value", () -> x.value(0, 0), NO_INDEX);
        due("1: rule", () -> x.rule(0, 0, 0), NO_INDEX);
        new HolonomicRows().function(1);
        due("1: count beside another object", x::count, 0);
    }

    private static void promise2Function() {
        HolonomicRows x = new HolonomicRows();
        due("2: order 0", () -> x.function(0), NO_ARGUMENT);
        due("2: order 4", () -> x.function(4), NO_ARGUMENT);
        due("2: order below", () -> x.function(Integer.MIN_VALUE), NO_ARGUMENT);
        due("2: order above", () -> x.function(Integer.MAX_VALUE), NO_ARGUMENT);
        due("2: wrong orders make none", x::count, 0);
        due("2: order 1", () -> x.function(1), 0);
        due("2: order 2", () -> x.function(2), 1);
        due("2: order 3", () -> x.function(3), 2);
        due("2: all 0 at first", () -> x.value(2, 63), 0);
        fill(x);
        due("2: the 41st", () -> x.function(1), NO_STATE);
        due("2: the 41st, of a wrong order", () -> x.function(0), NO_STATE);
        due("2: still 40", x::count, 40);
    }

    private static void promise3Factor() {
        HolonomicRows x = new HolonomicRows();
        int f = x.function(2);
        int made = x.add(f, f);
        due("3: 0 is there", () -> x.factor(f, 0, 0, 0), false);
        due("3: 32003 is 0", () -> x.factor(f, 0, 0, 32003), false);
        due("3: -1", () -> x.factor(f, 0, 0, -1), true);
        due("3: -1 is 32002", () -> x.factor(f, 0, 0, 32002), false);
        due("3: the largest long", () -> x.factor(f, 1, 1, Long.MAX_VALUE), true);
        due("3: the same number", () -> x.factor(f, 1, 1, Long.MAX_VALUE % MODULUS), false);
        due("3: the lowest long", () -> x.factor(f, 2, 2, Long.MIN_VALUE), true);
        due("3: the same number", () -> x.factor(f, 2, 2, Long.MIN_VALUE + 32003L * 7), false);
        due("3: back to 0", () -> x.factor(f, 2, 2, 0), true);
        due("3: 0 again", () -> x.factor(f, 2, 2, 0), false);
        due("3: the others are as they were", () -> x.factor(f, 1, 1, Long.MAX_VALUE), false);
        due("3: no factor 3", () -> x.factor(f, 3, 0, 1), NO_ARGUMENT);
        due("3: no factor -1", () -> x.factor(f, -1, 0, 1), NO_ARGUMENT);
        due("3: no power 3", () -> x.factor(f, 0, 3, 1), NO_ARGUMENT);
        due("3: no power -1", () -> x.factor(f, 0, -1, 1), NO_ARGUMENT);
        due("3: not by a recurrence", () -> x.factor(made, 0, 0, 1), NO_ARGUMENT);
        due("3: no sequence 2", () -> x.factor(2, 0, 0, 1), NO_INDEX);
        due("3: no sequence -1, no factor", () -> x.factor(-1, 9, 9, 1), NO_INDEX);
        due("3: no sequence above", () -> x.factor(Integer.MAX_VALUE, 0, 0, 1), NO_INDEX);
    }

    private static void promise3Powers() {
        HolonomicRows x = new HolonomicRows();
        int f = x.function(1);
        x.start(f, 0, 1);
        x.factor(f, 1, 0, 1);
        x.factor(f, 0, 0, -3);
        x.factor(f, 0, 1, -2);
        x.factor(f, 0, 2, -5);
        dueNumbers("3: 5 n n + 2 n + 3", x, f, 1, 3, 30, 30 * 27, 30 * 27 * 54 % MODULUS);
        x.factor(f, 1, 0, 2);
        x.factor(f, 0, 1, 0);
        x.factor(f, 0, 2, 0);
        due("3: a quotient", () -> (x.value(f, 1) * 2) % MODULUS, 3);
    }

    private static void promise4Start() {
        HolonomicRows x = new HolonomicRows();
        int f = x.function(3);
        int made = x.sums(f);
        due("4: 0 is there", () -> x.start(f, 0, 0), false);
        due("4: another one", () -> x.start(f, 2, 7), true);
        due("4: the same", () -> x.start(f, 2, 7 + 32003), false);
        due("4: read", () -> x.value(f, 2), 7);
        due("4: at 63", () -> x.start(f, 63, -2), true);
        due("4: read at 63", () -> x.value(f, 63), 32001);
        due("4: the lowest long", () -> x.start(f, 5, Long.MIN_VALUE), true);
        due("4: read it", () -> x.value(f, 5), Math.floorMod(Long.MIN_VALUE, 32003L));
        due("4: back to 0", () -> x.start(f, 5, 0), true);
        due("4: 0 again", () -> x.start(f, 5, 0), false);
        due("4: no place 64", () -> x.start(f, 64, 1), NO_INDEX);
        due("4: no place -1", () -> x.start(f, -1, 1), NO_INDEX);
        due("4: no sequence", () -> x.start(2, 0, 1), NO_INDEX);
        due("4: not by a recurrence", () -> x.start(made, 0, 1), NO_ARGUMENT);
        due("4: no place comes first", () -> x.start(made, 64, 1), NO_INDEX);
        int g = powers(x, 2);
        due("4: a start that isn't looked at", () -> x.start(g, 5, 9), true);
        due("4: it is kept all the same", () -> x.start(g, 5, 9), false);
        due("4: the number is the recurrence's", () -> x.value(g, 5), 32);
    }

    private static void duePairErrors(HolonomicRows x, String what, Call low, Call high, Call other) {
        int before = x.count();
        due(what + " f is -1", low, NO_INDEX);
        due(what + " g isn't there", high, NO_INDEX);
        due(what + " makes none then", x::count, before);
        fill(x);
        due(what + " at 40", other, NO_STATE);
        due(what + " at 40, f is -1", low, NO_INDEX);
        due(what + " still 40", x::count, 40);
    }

    private static void promise5Add() {
        HolonomicRows x = new HolonomicRows();
        int f = listed(x, 1, 32002, 3);
        int g = listed(x, 10, 2, 30);
        due("5: number", () -> x.add(f, g), 2);
        dueNumbers("5: sum", x, 2, 11, 1, 33, 0);
        x.start(g, 63, 32002);
        x.start(f, 63, 32002);
        due("5: sum stays the sum", () -> x.value(2, 63), 32001);
        due("5: of itself", () -> x.add(2, 2), 3);
        dueNumbers("5: doubled", x, 3, 22, 2, 66, 0);
        x.start(f, 0, 2);
        dueNumbers("5: doubled through another", x, 3, 24, 2, 66, 0);
        duePairErrors(x, "5:", () -> x.add(-1, 0), () -> x.add(0, 40), () -> x.add(0, 0));
    }

    private static void promise6Times() {
        HolonomicRows x = new HolonomicRows();
        int f = listed(x, 1, 32002, 3, 5);
        int g = listed(x, 10, 32002, 30);
        due("6: number", () -> x.times(f, g), 2);
        dueNumbers("6: product", x, 2, 10, 1, 90, 0);
        x.start(g, 3, 4);
        dueNumbers("6: product stays the product", x, 2, 10, 1, 90, 20);
        duePairErrors(x, "6:", () -> x.times(-1, 0), () -> x.times(0, 40), () -> x.times(0, 0));
    }

    private static void promise7Convolve() {
        HolonomicRows x = new HolonomicRows();
        int f = listed(x, 1, 2, 3);
        int g = listed(x, 4, 5);
        due("7: number", () -> x.convolve(f, g), 2);
        dueNumbers("7: convolution", x, 2, 4, 13, 22, 15, 0);
        int ones = powers(x, 1);
        int c = x.convolve(ones, ones);
        due("7: at 63", () -> x.value(c, 63), 64);
        int most = powers(x, 1);
        x.start(most, 0, 32002);
        int d = x.convolve(most, most);
        due("7: large ones at 63", () -> x.value(d, 63), 64);
        x.start(g, 0, 0);
        dueNumbers("7: convolution stays it", x, 2, 0, 5, 10, 15, 0);
        duePairErrors(x, "7:", () -> x.convolve(-1, 0), () -> x.convolve(0, 40),
                () -> x.convolve(0, 0));
    }

    private static void promise8Weave() {
        HolonomicRows x = new HolonomicRows();
        int f = listed(x, 1, 2, 3);
        int g = listed(x, 7, 8, 9);
        due("8: number", () -> x.weave(f, g), 2);
        dueNumbers("8: woven", x, 2, 1, 7, 2, 8, 3, 9, 0, 0);
        x.start(f, 31, 5);
        x.start(g, 31, 6);
        x.start(g, 32, 4);
        due("8: at 62", () -> x.value(2, 62), 5);
        due("8: at 63", () -> x.value(2, 63), 6);
        duePairErrors(x, "8:", () -> x.weave(-1, 0), () -> x.weave(0, 40), () -> x.weave(0, 0));
    }

    private static void promise9Shift() {
        HolonomicRows x = new HolonomicRows();
        int f = listed(x, 1, 2, 3, 4, 5, 6, 7, 8, 9);
        x.start(f, 63, 11);
        due("9: by 0", () -> x.shift(f, 0), 1);
        due("9: by 0 is the same", () -> x.differ(f, 1), -1);
        due("9: by 8", () -> x.shift(f, 8), 2);
        due("9: by 8 at 0", () -> x.value(2, 0), 9);
        due("9: by 8 at 55", () -> x.value(2, 55), 11);
        due("9: by 8 at 56", () -> x.value(2, 56), 0);
        due("9: by 8 at 63", () -> x.value(2, 63), 0);
        due("9: by 9", () -> x.shift(f, 9), NO_ARGUMENT);
        due("9: by -1", () -> x.shift(f, -1), NO_ARGUMENT);
        due("9: by the largest", () -> x.shift(f, Integer.MAX_VALUE), NO_ARGUMENT);
        due("9: no sequence, by 9", () -> x.shift(3, 9), NO_INDEX);
        x.start(f, 8, 10);
        due("9: shift stays it", () -> x.value(2, 0), 10);
        duePairErrors(x, "9:", () -> x.shift(-1, 0), () -> x.shift(40, 9), () -> x.shift(0, 9));
    }

    private static void promise10Sums() {
        HolonomicRows x = new HolonomicRows();
        int f = listed(x, 1, 32002, 3, 5);
        due("10: number", () -> x.sums(f), 1);
        dueNumbers("10: sums", x, 1, 1, 0, 3, 8, 8);
        due("10: at 63", () -> x.value(1, 63), 8);
        x.start(f, 0, 2);
        dueNumbers("10: sums stay it", x, 1, 2, 1, 4, 9, 9);
        duePairErrors(x, "10:", () -> x.sums(-1), () -> x.sums(40), () -> x.sums(0));
    }

    private static void promise11Derive() {
        HolonomicRows x = new HolonomicRows();
        int f = listed(x, 1, 32002, 3, 5);
        x.start(f, 63, 1000);
        due("11: number", () -> x.derive(f), 1);
        dueNumbers("11: slope", x, 1, 32002, 6, 15, 0);
        due("11: at 62", () -> x.value(1, 62), 63000 % MODULUS);
        due("11: at 63", () -> x.value(1, 63), 0);
        x.start(f, 1, 4);
        due("11: slope stays it", () -> x.value(1, 0), 4);
        duePairErrors(x, "11:", () -> x.derive(-1), () -> x.derive(40), () -> x.derive(0));
    }

    private static void promise12Value() {
        HolonomicRows x = new HolonomicRows();
        int f = fibonacci(x);
        dueNumbers("12: Fibonacci", x, f, 0, 1, 1, 2, 3, 5, 8, 13, 21);
        int g = factorials(x);
        dueNumbers("12: factorials", x, g, 1, 1, 2, 6, 24, 120, 720, 5040, 40320 % MODULUS);
        int h = x.function(3);
        x.factor(h, 0, 0, -1);
        x.factor(h, 1, 0, -2);
        x.factor(h, 2, 1, -1);
        x.factor(h, 3, 0, 1);
        x.start(h, 0, 1);
        x.start(h, 1, 2);
        x.start(h, 2, 3);
        dueNumbers("12: order 3", x, h, 1, 2, 3, 5, 13, 39);
        due("12: place 64", () -> x.value(f, 64), NO_INDEX);
        due("12: place -1", () -> x.value(f, -1), NO_INDEX);
        due("12: lowest place", () -> x.value(f, Integer.MIN_VALUE), NO_INDEX);
        due("12: sequence 3", () -> x.value(3, 0), NO_INDEX);
        due("12: sequence -1", () -> x.value(-1, 0), NO_INDEX);
        due("12: sequence 40", () -> x.value(40, 0), NO_INDEX);
    }

    private static void promise13Singular() {
        HolonomicRows x = new HolonomicRows();
        int f = x.function(2);
        due("13: factors 0", () -> x.singular(f), 2);
        x.factor(f, 2, 0, -6);
        x.factor(f, 2, 1, -1);
        x.factor(f, 2, 2, 1);
        due("13: (n - 3) (n + 2)", () -> x.singular(f), 5);
        x.factor(f, 0, 0, 1);
        x.start(f, 5, 9);
        due("13: its number is the start", () -> x.value(f, 5), 9);
        x.factor(f, 2, 0, -61);
        x.factor(f, 2, 1, 1);
        x.factor(f, 2, 2, 0);
        due("13: n - 61, the last place", () -> x.singular(f), 63);
        x.factor(f, 2, 0, -62);
        due("13: n - 62, one too far", () -> x.singular(f), -1);
        int made = x.add(f, f);
        due("13: made of others", () -> x.singular(made), NO_ARGUMENT);
        due("13: no sequence", () -> x.singular(2), NO_INDEX);
        due("13: no sequence -1", () -> x.singular(-1), NO_INDEX);
    }

    private static void promise14Guess() {
        HolonomicRows x = new HolonomicRows();
        int f = powers(x, 2);
        due("14: order 0", () -> x.guess(f, 0, 3), 0);
        due("14: 2 to the n", () -> x.guess(f, 1, 0), 1);
        dueRule("14", x, 0, 0, -2, 1);
        due("14: order 2", () -> x.guess(f, 2, 0), 2);
        dueRule("14", x, 0, 0, -4, 0, 1);
        dueRule("14", x, 1, 0, -2, 1, 0);
        due("14: degree 1", () -> x.guess(f, 1, 1), 2);
        dueRule("14", x, 0, 1, 0, -2, 0, 1);
        dueRule("14", x, 1, 1, -2, 0, 1, 0);
        int g = factorials(x);
        due("14: factorials", () -> x.guess(g, 1, 1), 1);
        dueRule("14", x, 0, 1, -1, -1, 1, 0);
        int zero = x.function(1);
        due("14: zeros", () -> x.guess(zero, 4, 3), 20);
        dueRule("14: zeros", x, 0, 3, 0, 0, 0, 0, 0, 0, 0, 0, 0, 0, 0, 0, 0, 0, 0, 0, 0, 0, 0, 1);
        dueRule("14: zeros", x, 19, 3, 1, 0, 0, 0, 0, 0, 0, 0, 0, 0, 0, 0, 0, 0, 0, 0, 0, 0, 0, 0);
        due("14: order 5", () -> x.guess(f, 5, 0), NO_ARGUMENT);
        due("14: order -1", () -> x.guess(f, -1, 0), NO_ARGUMENT);
        due("14: degree 4", () -> x.guess(f, 0, 4), NO_ARGUMENT);
        due("14: degree -1", () -> x.guess(f, 0, -1), NO_ARGUMENT);
        due("14: no sequence, no order", () -> x.guess(3, 9, 9), NO_INDEX);
        due("14: no sequence -1", () -> x.guess(-1, 0, 0), NO_INDEX);
    }

    private static void promise14LastPlaces() {
        HolonomicRows x = new HolonomicRows();
        int f = x.function(1);
        x.start(f, 63, 5);
        due("14: 63 alone", () -> x.guess(f, 0, 1), 1);
        dueRule("14: n - 63", x, 0, 1, -63, 1);
        due("14: 63 alone, order 1", () -> x.guess(f, 1, 0), 1);
        dueRule("14: f at n", x, 0, 0, 1, 0);
        x.start(f, 63, 0);
        x.start(f, 0, 5);
        due("14: 0 alone", () -> x.guess(f, 0, 3), 3);
        dueRule("14: n n n", x, 0, 3, 0, 0, 0, 1);
        dueRule("14: n n", x, 1, 3, 0, 0, 1, 0);
        dueRule("14: n", x, 2, 3, 0, 1, 0, 0);
        int g = fibonacci(x);
        int spoilt = x.function(1);
        x.start(spoilt, 63, 1);
        int h = x.add(g, spoilt);
        due("14: wrong at 63 alone", () -> x.guess(h, 2, 0), 0);
        due("14: wrong at 63 alone, a factor n - 61", () -> x.guess(h, 2, 1), 1);
        dueRule("14: (n - 61) times it", x, 0, 1, 61, -1, 61, -1, -61, 1);
    }

    private static void promise15Rule() {
        HolonomicRows x = new HolonomicRows();
        int f = powers(x, 2);
        due("15: nothing found yet", () -> x.rule(0, 0, 0), NO_INDEX);
        x.guess(f, 1, 0);
        due("15: no member 1", () -> x.rule(1, 0, 0), NO_INDEX);
        due("15: no member -1", () -> x.rule(-1, 0, 0), NO_INDEX);
        due("15: no member above, no i", () -> x.rule(Integer.MAX_VALUE, 9, 9), NO_INDEX);
        due("15: i above", () -> x.rule(0, 2, 0), 0);
        due("15: i below", () -> x.rule(0, -1, 0), 0);
        due("15: j above", () -> x.rule(0, 0, 1), 0);
        due("15: j below", () -> x.rule(0, 1, -1), 0);
        due("15: far off", () -> x.rule(0, Integer.MAX_VALUE, Integer.MIN_VALUE), 0);
        due("15: i far above", () -> x.rule(0, 1 << 30, 0), 0);
        due("15: j far above", () -> x.rule(0, 0, Integer.MAX_VALUE), 0);
        int zero = x.function(1);
        x.guess(zero, 0, 3);
        due("15: i times 4 is 0 in an int", () -> x.rule(3, 1 << 30, 0), 0);
        x.guess(f, 1, 0);
        x.factor(f, 0, 0, -3);
        due("15: as it was found", () -> x.rule(0, 0, 0), 32001);
        due("15: least", () -> x.least(f, 1), 1);
        due("15: least leaves it", () -> x.rule(0, 0, 0), 32001);
        due("15: a wrong guess", () -> x.guess(f, 5, 0), NO_ARGUMENT);
        due("15: leaves it", () -> x.rule(0, 0, 0), 32001);
        due("15: found anew", () -> x.guess(f, 1, 0), 1);
        due("15: read anew", () -> x.rule(0, 0, 0), 32000);
        due("15: none found", () -> x.guess(f, 0, 0), 0);
        due("15: no member 0", () -> x.rule(0, 0, 0), NO_INDEX);
    }

    /** A table's neighbour in memory, (1, 0) behind (0, d), is not what is asked for. */
    private static void promise15Neighbours() {
        HolonomicRows x = new HolonomicRows();
        int zero = x.function(1);
        due("15: all of order 4, degree 3", () -> x.guess(zero, 4, 3), 20);
        due("15: the first begins at (4, 3)", () -> x.rule(0, 4, 3), 1);
        due("15: the last begins at (0, 0)", () -> x.rule(19, 0, 0), 1);
        due("15: no member 20", () -> x.rule(20, 0, 0), NO_INDEX);
        due("15: i is 5", () -> x.rule(0, 5, 3), 0);
        due("15: i is 5, j is -1", () -> x.rule(0, 5, -1), 0);
        due("15: j is 4", () -> x.rule(0, 4, 4), 0);
        due("15: i is -1", () -> x.rule(19, -1, 0), 0);
        due("15: i is -1, j is 4", () -> x.rule(19, -1, 4), 0);
        due("15: (1, 0) begins member 15", () -> x.rule(15, 1, 0), 1);
        due("15: (0, 4) isn't (1, 0)", () -> x.rule(15, 0, 4), 0);
        due("15: (2, -4) isn't (1, 0)", () -> x.rule(15, 2, -4), 0);
        due("15: (1, 3) begins member 12", () -> x.rule(12, 1, 3), 1);
        due("15: (2, -1) isn't (1, 3)", () -> x.rule(12, 2, -1), 0);
        due("15: (0, 7) isn't (1, 3)", () -> x.rule(12, 0, 7), 0);
    }

    private static void promise15FoundLatest() {
        HolonomicRows x = new HolonomicRows();
        int zero = x.function(1);
        int f = powers(x, 3);
        x.guess(zero, 4, 3);
        due("15: a smaller base", () -> x.guess(f, 2, 0), 2);
        dueRule("15: a smaller base", x, 0, 0, -9, 0, 1);
        dueRule("15: a smaller base", x, 1, 0, -3, 1, 0);
        due("15: member 2 is gone", () -> x.rule(2, 0, 0), NO_INDEX);
        due("15: i 4 is gone", () -> x.rule(0, 4, 0), 0);
        due("15: j 3 is gone", () -> x.rule(0, 2, 3), 0);
        due("15: another sequence's", () -> x.guess(zero, 0, 0), 1);
        due("15: it is read", () -> x.rule(0, 0, 0), 1);
        due("15: member 1 is gone", () -> x.rule(1, 0, 0), NO_INDEX);
        due("15: none", () -> x.guess(f, 0, 3), 0);
        due("15: member 0 is gone", () -> x.rule(0, 0, 0), NO_INDEX);
        due("15: a larger one again", () -> x.guess(zero, 1, 1), 4);
        due("15: its last member", () -> x.rule(3, 0, 0), 1);
    }

    /** What an earlier base left behind doesn't show in a later one. */
    private static void promise15NothingLeft() {
        HolonomicRows x = new HolonomicRows();
        int f = fibonacci(x);
        int zero = x.function(1);
        x.guess(f, 4, 3);
        x.guess(zero, 4, 3);
        for (int k = 0; k < 20; k++) {
            long[] unit = new long[20];
            unit[19 - k] = 1;
            dueRule("15: zeros behind another", x, k, 3, unit);
        }
    }

    private static int sumOfPowers(HolonomicRows x, int how) {
        int f = x.function(1);
        for (int base = 2; base < 2 + how; base++) {
            f = x.add(f, powers(x, base));
        }
        return f;
    }

    /** The numbers n to the e. */
    private static int places(HolonomicRows x, int e) {
        int f = x.function(1);
        for (int n = 0; n < 64; n++) {
            long v = 1;
            for (int i = 0; i < e; i++) {
                v *= n;
            }
            x.start(f, n, v);
        }
        return f;
    }

    private static void promise16Edges() {
        for (int d = 0; d <= 3; d++) {
            HolonomicRows x = new HolonomicRows();
            int degree = d;
            for (int m = 0; m <= 5; m++) {
                int f = sumOfPowers(x, m);
                due("16: " + m + " powers, degree " + d, () -> x.least(f, degree), m == 5 ? -1 : m);
            }
        }
        HolonomicRows x = new HolonomicRows();
        int n1 = places(x, 1);
        int n2 = places(x, 2);
        int n3 = places(x, 3);
        int n4 = places(x, 4);
        due("16: n, degree 0", () -> x.least(n1, 0), 2);
        due("16: n, degree 1", () -> x.least(n1, 1), 1);
        due("16: n n, degree 0", () -> x.least(n2, 0), 3);
        due("16: n n, degree 2", () -> x.least(n2, 2), 1);
        due("16: n n n, degree 0", () -> x.least(n3, 0), 4);
        due("16: n n n, degree 3", () -> x.least(n3, 3), 1);
        due("16: n n n n, degree 0", () -> x.least(n4, 0), -1);
        int few = listed(x, 5, 6, 7);
        due("16: three numbers, degree 3", () -> x.least(few, 3), 0);
        due("16: three numbers, degree 2", () -> x.least(few, 2), 1);
        x.start(few, 3, 8);
        due("16: four numbers, degree 3", () -> x.least(few, 3), 1);
    }

    private static void promise16Least() {
        HolonomicRows x = new HolonomicRows();
        int f = powers(x, 2);
        int g = fibonacci(x);
        int h = factorials(x);
        int zero = x.function(1);
        due("16: powers", () -> x.least(f, 0), 1);
        due("16: Fibonacci", () -> x.least(g, 0), 2);
        due("16: their sum", () -> x.least(x.add(f, g), 0), 3);
        due("16: powers woven", () -> x.least(x.weave(f, f), 0), 2);
        due("16: factorials, degree 0", () -> x.least(h, 0), -1);
        due("16: factorials, degree 1", () -> x.least(h, 1), 1);
        due("16: zeros", () -> x.least(zero, 0), 0);
        x.start(zero, 63, 1);
        due("16: not quite zeros, degree 0", () -> x.least(zero, 0), 1);
        due("16: not quite zeros, degree 1", () -> x.least(zero, 1), 0);
        int fours = x.add(x.add(f, g), x.add(powers(x, 3), powers(x, 5)));
        due("16: order 5 is too much", () -> x.least(fours, 0), -1);
        int three = x.add(g, x.add(powers(x, 3), powers(x, 5)));
        due("16: order 4", () -> x.least(three, 0), 4);
        due("16: degree 4", () -> x.least(f, 4), NO_ARGUMENT);
        due("16: degree -1", () -> x.least(f, -1), NO_ARGUMENT);
        due("16: no sequence, degree 4", () -> x.least(-1, 4), NO_INDEX);
        due("16: no sequence", () -> x.least(40, 0), NO_INDEX);
    }

    private static void promise17Differ() {
        HolonomicRows x = new HolonomicRows();
        int f = powers(x, 2);
        int g = powers(x, 2);
        due("17: the same", () -> x.differ(f, g), -1);
        due("17: itself", () -> x.differ(f, f), -1);
        x.factor(g, 0, 0, -3);
        due("17: from 1 on", () -> x.differ(f, g), 1);
        x.start(g, 0, 2);
        due("17: from 0 on", () -> x.differ(g, f), 0);
        int a = x.function(1);
        int b = x.function(3);
        due("17: zeros", () -> x.differ(a, b), -1);
        x.start(b, 63, 1);
        due("17: the last place", () -> x.differ(a, b), 63);
        x.start(a, 5, 1);
        due("17: the first of two places", () -> x.differ(a, b), 5);
        due("17: from the other side", () -> x.differ(b, a), 5);
        x.start(b, 5, 32004);
        due("17: the same again there", () -> x.differ(a, b), 63);
        x.start(a, 63, -32002);
        due("17: the same everywhere", () -> x.differ(a, b), -1);
        due("17: no f", () -> x.differ(-1, 0), NO_INDEX);
        due("17: no g", () -> x.differ(0, 4), NO_INDEX);
    }

    private static void promise18Hangs() {
        HolonomicRows x = new HolonomicRows();
        int f = x.function(1);
        int g = x.function(1);
        int h = x.function(1);
        int sum = x.add(f, g);
        int far = x.derive(x.shift(x.sums(sum), 2));
        int both = x.weave(h, far);
        due("18: itself", () -> x.hangs(f, f), true);
        due("18: another", () -> x.hangs(f, g), false);
        due("18: another, the later of the first", () -> x.hangs(g, f), false);
        due("18: another, the later of the second", () -> x.hangs(h, g), false);
        due("18: made of f", () -> x.hangs(sum, f), true);
        due("18: made of g", () -> x.hangs(sum, g), true);
        due("18: not of h", () -> x.hangs(sum, h), false);
        due("18: not the other way", () -> x.hangs(f, sum), false);
        due("18: by others", () -> x.hangs(far, g), true);
        due("18: by others, not of h", () -> x.hangs(far, h), false);
        due("18: second by others", () -> x.hangs(both, f), true);
        due("18: first", () -> x.hangs(both, h), true);
        due("18: no f", () -> x.hangs(-1, 0), NO_INDEX);
        due("18: no g", () -> x.hangs(0, 8), NO_INDEX);
        due("18: no g 64", () -> x.hangs(0, 64), NO_INDEX);
        while (x.count() < 40) {
            x.sums(x.count() - 1);
        }
        due("18: the last one", () -> x.hangs(39, 0), true);
        due("18: the last one itself", () -> x.hangs(39, 39), true);
        due("18: not of the last one", () -> x.hangs(38, 39), false);
    }

    private static void promise18Kinds() {
        HolonomicRows x = new HolonomicRows();
        int f = x.function(1);
        int g = x.function(1);
        int h = x.function(1);
        int[] pairs = {x.add(f, g), x.times(f, g), x.convolve(f, g), x.weave(f, g)};
        int[] singles = {x.shift(f, 0), x.sums(f), x.derive(f)};
        for (int made : pairs) {
            due("18: " + made + " is made of f", () -> x.hangs(made, f), true);
            due("18: " + made + " is made of g", () -> x.hangs(made, g), true);
            due("18: " + made + " isn't made of h", () -> x.hangs(made, h), false);
            due("18: f isn't made of " + made, () -> x.hangs(f, made), false);
            due("18: " + made + " is itself", () -> x.hangs(made, made), true);
        }
        for (int made : singles) {
            due("18: " + made + " is made of f", () -> x.hangs(made, f), true);
            due("18: " + made + " isn't made of g", () -> x.hangs(made, g), false);
            due("18: f isn't made of " + made, () -> x.hangs(f, made), false);
            due("18: " + made + " is itself", () -> x.hangs(made, made), true);
        }
        due("18: the same numbers are not enough", () -> x.hangs(pairs[0], pairs[1]), false);
        due("18: a part in common is not enough", () -> x.hangs(singles[0], singles[1]), false);
    }

    private static void promise19Count() {
        HolonomicRows x = new HolonomicRows();
        due("19: none", x::count, 0);
        int f = x.function(1);
        due("19: one", x::count, 1);
        x.add(f, f);
        x.times(f, f);
        x.convolve(f, f);
        x.weave(f, f);
        x.shift(f, 1);
        x.sums(f);
        x.derive(f);
        due("19: one of each", x::count, 8);
        x.guess(f, 1, 1);
        x.least(f, 1);
        x.factor(f, 0, 0, 1);
        due("19: questions make none", x::count, 8);
        fill(x);
        due("19: all", x::count, 40);
        due("19: one more is refused", () -> x.function(1), NO_STATE);
        due("19: still all", x::count, 40);
    }

    /** What README.md shows is what the class answers. */
    private static void readmeExample() {
        HolonomicRows x = new HolonomicRows();
        int f = x.function(2);
        x.factor(f, 0, 0, 1);
        x.factor(f, 1, 0, 1);
        x.factor(f, 2, 0, -1);
        x.start(f, 1, 1);
        due("README: value", () -> x.value(f, 10), 55);
        int s = x.sums(f);
        due("README: least", () -> x.least(s, 0), 3);
        due("README: guess", () -> x.guess(s, 3, 0), 1);
        due("README: rule", () -> x.rule(0, 3, 0), 1);
    }

    /** What one object is asked doesn't show in another that is used between. */
    private static void promise1TwoObjects() {
        HolonomicRows x = new HolonomicRows();
        HolonomicRows y = new HolonomicRows();
        int f = powers(x, 2);
        int g = powers(y, 3);
        due("1: the same number in both", () -> f == g, true);
        x.guess(f, 1, 0);
        due("1: nothing found in the other", () -> y.rule(0, 0, 0), NO_INDEX);
        y.guess(g, 2, 0);
        dueRule("1: the one's base", x, 0, 0, -2, 1);
        dueRule("1: the other's base", y, 0, 0, -9, 0, 1);
        due("1: the one has no member 1", () -> x.rule(1, 0, 0), NO_INDEX);
        due("1: the other has", () -> y.rule(1, 0, 0), 32000);
        dueNumbers("1: the one's numbers", x, f, 1, 2, 4, 8);
        dueNumbers("1: the other's numbers", y, g, 1, 3, 9, 27);
        x.sums(f);
        due("1: made in the one alone", y::count, 1);
        due("1: made there", x::count, 2);
    }

    public static void main(String[] args) {
        readmeExample();
        promise1NewObject();
        promise1TwoObjects();
        promise2Function();
        promise3Factor();
        promise3Powers();
        promise4Start();
        promise5Add();
        promise6Times();
        promise7Convolve();
        promise8Weave();
        promise9Shift();
        promise10Sums();
        promise11Derive();
        promise12Value();
        promise13Singular();
        promise14Guess();
        promise14LastPlaces();
        promise15Rule();
        promise15Neighbours();
        promise15FoundLatest();
        promise15NothingLeft();
        promise16Least();
        promise16Edges();
        promise17Differ();
        promise18Hangs();
        promise18Kinds();
        promise19Count();
        System.out.println(wrong == 0 ? "all answers are as due" : wrong + " answers are not as due");
        if (wrong != 0) {
            System.exit(1);
        }
    }
}
