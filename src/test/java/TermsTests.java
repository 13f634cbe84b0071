import java.math.BigInteger;

/**
 * Sentence by sentence of the document's "What it is" and "Terms", each edge that the sentence
 * names on a new object of its own. Refused calls stand in RefusalTests.
 */
public final class TermsTests {
    private static final int MODULUS = 32003;
    private static final int PLACES = 64;
    private static final String[] KINDS = {"add", "times", "convolve", "weave", "shift", "sums", "derive"};

    private interface Call {
        Object run(HolonomicRows x);
    }

    private static int wrong;
    private static int cases;

    private static void edge(String what, Call call, Object want) {
        cases++;
        String got;
        try {
            got = String.valueOf(call.run(new HolonomicRows()));
        } catch (RuntimeException e) {
            got = "throws." + e.getClass().getSimpleName();
        }
        if (!got.equals(String.valueOf(want))) {
            wrong++;
            System.out.println(what + ": answered " + got + ", due is " + want);
        }
    }

    private static long mod(long v) {
        return BigInteger.valueOf(v).mod(BigInteger.valueOf(MODULUS)).longValue();
    }

    private static long inverse(long v) {
        return BigInteger.valueOf(v).modInverse(BigInteger.valueOf(MODULUS)).longValue();
    }

    private static int listed(HolonomicRows x, long... numbers) {
        int f = x.function(1);
        for (int n = 0; n < numbers.length; n++) {
            x.start(f, n, numbers[n]);
        }
        return f;
    }

    /** One number that isn't 0. */
    private static int alone(HolonomicRows x, int place, long v) {
        int f = x.function(1);
        x.start(f, place, v);
        return f;
    }

    private static int powers(HolonomicRows x, long base) {
        int f = x.function(1);
        x.factor(f, 0, 0, -base);
        x.factor(f, 1, 0, 1);
        x.start(f, 0, 1);
        return f;
    }

    private static int fibonacci(HolonomicRows x) {
        int f = x.function(2);
        x.factor(f, 0, 0, 1);
        x.factor(f, 1, 0, 1);
        x.factor(f, 2, 0, -1);
        x.start(f, 1, 1);
        return f;
    }

    private static int make(HolonomicRows x, String kind, int f, int g) {
        switch (kind) {
            case "add": return x.add(f, g);
            case "times": return x.times(f, g);
            case "convolve": return x.convolve(f, g);
            case "weave": return x.weave(f, g);
            case "shift": return x.shift(f, 3);
            case "sums": return x.sums(f);
            default: return x.derive(f);
        }
    }

    private static String row(HolonomicRows x, int f) {
        StringBuilder text = new StringBuilder();
        for (int n = 0; n < PLACES; n++) {
            text.append(x.value(f, n)).append(' ');
        }
        return text.toString();
    }

    private static String row(long[] numbers) {
        StringBuilder text = new StringBuilder();
        for (long v : numbers) {
            text.append(v).append(' ');
        }
        return text.toString();
    }

    /** What make(kind, f, g) is due to be, by the document's words. */
    private static long[] made(String kind, long[] f, long[] g) {
        long[] a = new long[PLACES];
        for (int n = 0; n < PLACES; n++) {
            switch (kind) {
                case "add": a[n] = mod(f[n] + g[n]); break;
                case "times": a[n] = mod(f[n] * g[n]); break;
                case "weave": a[n] = n % 2 == 0 ? f[n / 2] : g[(n - 1) / 2]; break;
                case "shift": a[n] = n + 3 > 63 ? 0 : f[n + 3]; break;
                case "derive": a[n] = n == 63 ? 0 : mod((n + 1) * f[n + 1]); break;
                default:
                    for (int i = 0; i <= n; i++) {
                        a[n] = mod(a[n] + (kind.equals("sums") ? f[i] : f[i] * g[n - i]));
                    }
            }
        }
        return a;
    }

    /** "An object is used for at most 512 calls after it has been made". */
    private static void callLimit() {
        edge("the 512th call reads a number", x -> {
            int f = x.function(1);
            for (int call = 2; call <= 511; call++) {
                x.start(f, call % PLACES, call);
            }
            return x.value(f, 511 % PLACES);
        }, 511);
        edge("the 512th call changes a start", x -> {
            int f = x.function(1);
            for (int call = 2; call <= 511; call++) {
                x.start(f, 7, call);
            }
            return x.start(f, 7, 512);
        }, true);
        edge("the 512th call makes a sequence", x -> {
            for (int call = 1; call <= 511; call++) {
                x.count();
            }
            return x.function(3);
        }, 0);
        edge("the 512th call makes the 40th sequence", x -> {
            for (int call = 1; call <= 39; call++) {
                x.function(3);
            }
            for (int call = 40; call <= 511; call++) {
                x.differ(0, 38);
            }
            return x.add(0, 38);
        }, 39);
        edge("guesses alone up to the 512th call", x -> {
            int f = x.function(1);
            for (int call = 2; call <= 511; call++) {
                x.guess(f, 4, 3);
            }
            return x.guess(f, 4, 3);
        }, 20);
        edge("leasts alone up to the 512th call", x -> {
            int f = powers(x, 2);
            for (int call = 5; call <= 511; call++) {
                x.least(f, 3);
            }
            return x.least(f, 0);
        }, 1);
    }

    /** "NUMBERS are modulo 32003, 0 .. 32002." */
    private static void numbers() {
        long[] edges = {0, 1, 32002, 32003, 32004, 64005, 64006, -1, -32002, -32003, -32004, -64006,
            Integer.MAX_VALUE, Integer.MIN_VALUE, 1L << 32, -(1L << 32), (1L << 32) + 32003,
            Long.MAX_VALUE, Long.MAX_VALUE - 32003, Long.MIN_VALUE, Long.MIN_VALUE + 1};
        for (long v : edges) {
            edge("start " + v, x -> x.value(alone(x, 0, v), 0), mod(v));
            edge("start " + v + " is another one than 0", x -> x.start(x.function(1), 9, v), mod(v) != 0);
            edge("start " + v + " is the same again", x -> {
                int f = alone(x, 9, v);
                return x.start(f, 9, mod(v));
            }, false);
            edge("start " + v + " is another one than one more", x -> {
                int f = alone(x, 9, v);
                return x.start(f, 9, mod(v) + 1);
            }, true);
            for (int power = 0; power <= 2; power++) {
                int at = power;
                edge("factor " + v + " at power " + power, x -> {
                    int f = x.function(1);
                    x.factor(f, 1, 1, -1);
                    x.factor(f, 0, at, v);
                    x.start(f, 1, 1);
                    return x.value(f, 2);
                }, mod(v));
                edge("factor " + v + " at power " + power + " is another one than 0",
                        x -> x.factor(x.function(1), 0, at, v), mod(v) != 0);
                edge("factor " + v + " at power " + power + " is the same again", x -> {
                    int f = x.function(1);
                    x.factor(f, 0, at, v);
                    return x.factor(f, 0, at, mod(v));
                }, false);
            }
        }
        wrapping();
    }

    private static void wrapping() {
        edge("32002 + 1", x -> x.value(x.add(listed(x, 32002), listed(x, 1)), 0), 0);
        edge("32002 + 32002", x -> x.value(x.add(listed(x, 32002), listed(x, 32002)), 0), 32001);
        edge("16001 + 16001", x -> x.value(x.add(listed(x, 16001), listed(x, 16001)), 0), 32002);
        edge("32002 times 32002", x -> x.value(x.times(listed(x, 32002), listed(x, 32002)), 0), 1);
        edge("32002 times 1", x -> x.value(x.times(listed(x, 32002), listed(x, 1)), 0), 32002);
        edge("sums of 64 times 32002", x -> x.value(x.sums(allOf(x, 32002)), 63), MODULUS - 64);
        edge("64 products of 32001 and 32001",
                x -> x.value(x.convolve(allOf(x, 32001), allOf(x, 32001)), 63), 64 * 4);
        edge("64 products of 32002 and 1",
                x -> x.value(x.convolve(allOf(x, 32002), allOf(x, 1)), 63), MODULUS - 64);
        edge("63 times 32002", x -> x.value(x.derive(alone(x, 63, 32002)), 62), MODULUS - 63);
        edge("63 times 508, above the numbers", x -> x.value(x.derive(alone(x, 63, 508)), 62), 1);
        edge("minus 0 by a recurrence", x -> {
            int f = x.function(1);
            x.factor(f, 1, 0, 1);
            return x.value(f, 1);
        }, 0);
        edge("minus the sum where the sum is 32003", x -> {
            int f = x.function(2);
            x.factor(f, 0, 0, 32002);
            x.factor(f, 1, 0, 1);
            x.factor(f, 2, 0, 1);
            x.start(f, 0, 1);
            x.start(f, 1, 1);
            return x.value(f, 2);
        }, 0);
        edge("all factors and starts 32002", TermsTests::mostOfAll, row(mostOfAllDue()));
    }

    /** A sequence that goes on with one number. */
    private static int allOf(HolonomicRows x, long v) {
        int f = powers(x, 1);
        x.start(f, 0, v);
        return f;
    }

    private static String mostOfAll(HolonomicRows x) {
        int f = x.function(3);
        for (int i = 0; i <= 3; i++) {
            for (int power = 0; power <= 2; power++) {
                x.factor(f, i, power, 32002);
            }
        }
        for (int n = 0; n < 3; n++) {
            x.start(f, n, 32002);
        }
        return row(x, f);
    }

    /** All factors are the same and never 0, so each number is minus the sum of three. */
    private static long[] mostOfAllDue() {
        long[] a = new long[PLACES];
        for (int n = 0; n < PLACES; n++) {
            a[n] = n < 3 ? 32002 : mod(-a[n - 1] - a[n - 2] - a[n - 3]);
        }
        return a;
    }

    /** "A SEQUENCE has a number at each place 0 .. 63; SEQUENCES are numbered from 0 on .. at most 40." */
    private static void placesAndNumbers() {
        for (int order = 1; order <= 3; order++) {
            int r = order;
            edge("order " + r + ", place 0", x -> {
                x.start(x.function(r), 0, 8);
                return x.value(0, 0);
            }, 8);
            edge("order " + r + ", place 63", x -> {
                x.start(x.function(r), 63, 8);
                return x.value(0, 63);
            }, 8);
            edge("order " + r + ", place 62 is none of 63", x -> {
                x.start(x.function(r), 63, 8);
                return x.value(0, 62);
            }, 0);
        }
        edge("the first is number 0", x -> x.function(1), 0);
        edge("numbers in the order of making", x -> {
            StringBuilder text = new StringBuilder();
            text.append(x.function(1)).append(x.function(2)).append(x.function(3));
            for (String kind : KINDS) {
                text.append(' ').append(make(x, kind, 0, 1));
            }
            return text.toString();
        }, "012 3 4 5 6 7 8 9");
        for (String kind : KINDS) {
            edge("the 40th by " + kind, x -> {
                upTo39(x);
                return make(x, kind, 38, 38);
            }, 39);
            edge("the 40th by " + kind + " can be used", x -> {
                upTo39(x);
                int f = make(x, kind, 0, 0);
                x.start(0, 0, 1);
                x.start(0, 1, 1);
                x.start(0, 3, 1);
                return x.value(f, 0) > 0;
            }, true);
        }
        edge("the 40th by function", x -> {
            upTo39(x);
            return x.function(3);
        }, 39);
        edge("the 40th by function can be used", x -> {
            upTo39(x);
            int f = x.function(3);
            x.factor(f, 0, 0, -2);
            x.factor(f, 3, 0, 1);
            x.start(f, 0, 9);
            return x.value(f, 3);
        }, 18);
        for (int order = 0; order <= 4; order += 4) {
            int r = order;
            edge("a refused order " + r + " takes no number", x -> {
                try {
                    x.function(r);
                } catch (IllegalArgumentException e) {
                    return x.function(1);
                }
                return "not refused";
            }, 0);
        }
    }

    private static void upTo39(HolonomicRows x) {
        for (int made = 0; made < 39; made++) {
            x.function(1);
        }
    }

    /** "A SEQUENCE BY A RECURRENCE has an order r, 1 .. 3, FACTORS p 0 .. p r .. all are 0 at first." */
    private static void ordersAndFactors() {
        for (int order = 1; order <= 3; order++) {
            int r = order;
            edge("order " + r + " is 0 everywhere at first",
                    x -> row(x, x.function(r)), row(new long[PLACES]));
            edge("order " + r + ", starts are 0 at first", x -> {
                int f = x.function(r);
                boolean other = false;
                for (int n = 0; n < PLACES; n++) {
                    other |= x.start(f, n, 0);
                }
                return other;
            }, false);
            for (int factor = 0; factor <= r; factor++) {
                for (int power = 0; power <= 2; power++) {
                    int i = factor;
                    int at = power;
                    String what = "order " + r + ", factor " + i + ", power " + at;
                    edge(what + " is 0 at first", x -> x.factor(x.function(r), i, at, 0), false);
                    edge(what + " can be 1", x -> x.factor(x.function(r), i, at, 1), true);
                    edge(what + " counts", x -> oneFactor(x, r, i, at), oneFactorDue(r, i, at));
                }
            }
        }
    }

    /** One factor is a power alone, the last one 1 beside it; all starts are 1. */
    private static String oneFactor(HolonomicRows x, int r, int i, int power) {
        int f = x.function(r);
        for (int n = 0; n < PLACES; n++) {
            x.start(f, n, 1);
        }
        if (i < r) {
            x.factor(f, r, 0, 1);
        } else {
            x.factor(f, 0, 0, -1);
        }
        x.factor(f, i, power, 1);
        return row(x, f);
    }

    private static String oneFactorDue(int r, int i, int power) {
        long[] a = new long[PLACES];
        for (int n = 0; n < PLACES; n++) {
            long at = n < r ? 0 : mod((long) Math.pow(n - r, power));
            if (n < r || i == r && at == 0) {
                a[n] = 1;
            } else {
                a[n] = i < r ? mod(-at * a[n - r + i]) : mod(a[n - r] * inverse(at));
            }
        }
        return row(a);
    }

    /** "Its number at place n below r is the START there; at n from r on it is minus the sum ..". */
    private static void recurrences() {
        for (int order = 1; order <= 3; order++) {
            int r = order;
            edge("order " + r + ", place r - 1 is a start", x -> x.value(doubling(x, r), r - 1), 100 + r - 1);
            edge("order " + r + ", place 0 is a start", x -> x.value(doubling(x, r), 0), 100);
            edge("order " + r + ", place r isn't", x -> x.value(doubling(x, r), r), 200);
            edge("order " + r + ", place 63 isn't", x -> x.value(doubling(x, r), 63),
                    mod((100L + 63 % r) * powerOf2(63 / r)));
            edge("order " + r + ", the place in a factor is 0 at r", x -> x.value(placed(x, r), r), 5);
            edge("order " + r + ", it is 1 at r + 1", x -> {
                int f = placed(x, r);
                return mod(x.value(f, r + 1) - 6L * x.value(f, 1));
            }, 0);
            edge("order " + r + ", it is 63 - r at 63", x -> {
                int f = placed(x, r);
                return mod(x.value(f, 63) - (5L + 63 - r) * x.value(f, 63 - r));
            }, 0);
            edge("order " + r + ", the last factor at 63", x -> {
                int f = placed(x, r);
                x.factor(f, r, 0, 3);
                x.factor(f, r, 2, 1);
                long last = 3L + (63 - r) * (63 - r);
                return mod(last * x.value(f, 63) - (5L + 63 - r) * x.value(f, 63 - r));
            }, 0);
            edge("order " + r + ", through 32002", x -> {
                int f = doubling(x, r);
                x.factor(f, r, 0, 32002);
                return x.value(f, r);
            }, MODULUS - 200);
            edge("order " + r + ", through 2", x -> {
                int f = doubling(x, r);
                x.factor(f, r, 0, 2);
                return x.value(f, r);
            }, 100);
            for (int factor = 0; factor < r; factor++) {
                int i = factor;
                edge("order " + r + ", p " + i + " is for the number at n - r + " + i, x -> {
                    int f = x.function(r);
                    x.factor(f, r, 0, 1);
                    x.factor(f, i, 0, -1);
                    for (int n = 0; n < r; n++) {
                        x.start(f, n, 10 + n);
                    }
                    return x.value(f, r);
                }, 10 + i);
            }
            singularPlaces(r);
        }
    }

    private static long powerOf2(int e) {
        return BigInteger.TWO.modPow(BigInteger.valueOf(e), BigInteger.valueOf(MODULUS)).longValue();
    }

    /** Each number is twice the one r ahead; starts are 100 and on. */
    private static int doubling(HolonomicRows x, int r) {
        int f = x.function(r);
        x.factor(f, 0, 0, -2);
        x.factor(f, r, 0, 1);
        for (int n = 0; n < PLACES; n++) {
            x.start(f, n, 100 + n);
        }
        return f;
    }

    /** The number at n is n - r + 5 times the one r ahead; starts are 1. */
    private static int placed(HolonomicRows x, int r) {
        int f = x.function(r);
        x.factor(f, 0, 0, -5);
        x.factor(f, 0, 1, -1);
        x.factor(f, r, 0, 1);
        for (int n = 0; n < r; n++) {
            x.start(f, n, 1);
        }
        return f;
    }

    /** ".. through p r of (n - r), if that isn't 0; else the START at n." */
    private static void singularPlaces(int r) {
        for (int place : new int[] {r, r + 1, 40, 62, 63}) {
            String what = "order " + r + ", the last factor is 0 for place " + place;
            edge(what + ", which is a start", x -> x.value(rooted(x, r, place), place), 100 + place);
            if (place > r) {
                edge(what + ", the one ahead isn't a start",
                        x -> x.value(rooted(x, r, place), place - 1) != 99 + place, true);
            }
            if (place < 63) {
                edge(what + ", the next one isn't a start",
                        x -> x.value(rooted(x, r, place), place + 1) != 101 + place, true);
            }
            edge(what + ", singular", x -> x.singular(rooted(x, r, place)), place);
            if (place + r <= 63) {
                edge(what + ", it goes on from the start", x -> {
                    int f = rooted(x, r, place);
                    return mod((long) r * x.value(f, place + r) - 2L * (100 + place));
                }, 0);
            }
        }
        edge("order " + r + ", the last factor is 0 one beyond 63", x -> x.singular(rooted(x, r, 64)), -1);
        edge("order " + r + ", the last factor is 0 one ahead of r", x -> x.singular(rooted(x, r, r - 1)), -1);
        edge("order " + r + ", the last factor is 0 as a number only", x -> {
            int f = x.function(r);
            x.factor(f, r, 2, 1);
            x.factor(f, r, 0, MODULUS - 50 * 50);
            x.start(f, 50 + r, 6);
            return x.singular(f) + " " + x.value(f, 50 + r);
        }, 50 + r + " 6");
        edge("order " + r + ", the first of two places", x -> {
            int f = x.function(r);
            x.factor(f, r, 2, 1);
            x.factor(f, r, 1, -10);
            x.factor(f, r, 0, 21);
            return x.singular(f);
        }, 3 + r);
    }

    /** The last factor is n - place; the numbers r apart hang together with -2; starts 100 and on. */
    private static int rooted(HolonomicRows x, int r, int place) {
        int f = x.function(r);
        x.factor(f, 0, 0, -2);
        x.factor(f, r, 0, r - place);
        x.factor(f, r, 1, 1);
        for (int n = 0; n < PLACES; n++) {
            x.start(f, n, 100 + n);
        }
        return f;
    }

    /** ".. and stay what they are made of when FACTORS or STARTS of those are other ones". */
    private static void stayWhatTheyAre() {
        for (String kind : KINDS) {
            for (int seen = 0; seen <= 1; seen++) {
                boolean read = seen == 1;
                String what = kind + (read ? ", read ahead of it" : "");
                edge(what + ", a start of f is another one", x -> changed(x, kind, read, "start f"),
                        row(made(kind, geometricDue(9, 2), geometricDue(5, 3))));
                edge(what + ", a factor of f is another one", x -> changed(x, kind, read, "factor f"),
                        row(made(kind, geometricDue(1, 7), geometricDue(5, 3))));
                edge(what + ", a start of g is another one", x -> changed(x, kind, read, "start g"),
                        row(made(kind, geometricDue(1, 2), geometricDue(8, 3))));
                edge(what + ", a factor of g is another one", x -> changed(x, kind, read, "factor g"),
                        row(made(kind, geometricDue(1, 2), geometricDue(5, 6))));
                edge(what + ", made of what is changed through another", x -> {
                    int f = geometric(x, 1, 2);
                    int same = x.shift(f, 0);
                    int m = make(x, kind, same, same);
                    if (read) {
                        row(x, m);
                    }
                    x.start(f, 0, 4);
                    return row(x, m);
                }, row(made(kind, geometricDue(4, 2), geometricDue(4, 2))));
            }
        }
        chains();
    }

    private static String changed(HolonomicRows x, String kind, boolean read, String change) {
        int f = geometric(x, 1, 2);
        int g = geometric(x, 5, 3);
        int m = make(x, kind, f, g);
        if (read) {
            row(x, m);
        }
        switch (change) {
            case "start f": x.start(f, 0, 9); break;
            case "factor f": x.factor(f, 0, 0, -7); break;
            case "start g": x.start(g, 0, 8); break;
            default: x.factor(g, 0, 0, -6); break;
        }
        return row(x, m);
    }

    private static int geometric(HolonomicRows x, long first, long base) {
        int f = powers(x, base);
        x.start(f, 0, first);
        return f;
    }

    private static long[] geometricDue(long first, long base) {
        long[] a = new long[PLACES];
        for (int n = 0; n < PLACES; n++) {
            a[n] = n == 0 ? first : mod(a[n - 1] * base);
        }
        return a;
    }

    private static void chains() {
        edge("39 sums of sums", x -> {
            int f = alone(x, 0, 1);
            for (int i = 0; i < 39; i++) {
                f = x.sums(f);
            }
            return x.value(f, 1) + " " + x.value(f, 63);
        }, "39 " + binomial(101, 38));
        edge("39 sums of sums, changed at the root", x -> {
            int f = alone(x, 0, 1);
            for (int i = 0; i < 39; i++) {
                f = x.sums(f);
                x.value(f, 63);
            }
            x.start(0, 0, 0);
            x.start(0, 63, 4);
            return x.value(f, 62) + " " + x.value(f, 63);
        }, "0 4");
        edge("39 doublings, 2 to the 39 ways to the root", x -> {
            int f = alone(x, 63, 1);
            for (int i = 0; i < 39; i++) {
                f = x.add(f, f);
            }
            return x.value(f, 63) + " " + x.hangs(f, 0);
        }, mod(1L << 39) + " true");
        edge("39 squares", x -> {
            int f = alone(x, 63, 2);
            for (int i = 0; i < 39; i++) {
                f = x.times(f, f);
            }
            return x.value(f, 63);
        }, BigInteger.TWO.modPow(BigInteger.ONE.shiftLeft(39), BigInteger.valueOf(MODULUS)));
        edge("39 convolutions with itself", x -> {
            int f = alone(x, 0, 2);
            for (int i = 0; i < 39; i++) {
                f = x.convolve(f, f);
            }
            return x.value(f, 0) + " " + x.value(f, 63);
        }, BigInteger.TWO.modPow(BigInteger.ONE.shiftLeft(39), BigInteger.valueOf(MODULUS)) + " 0");
        edge("a start that isn't looked at changes nothing", x -> {
            int s = x.sums(powers(x, 2));
            x.start(0, 1, 9);
            x.start(0, 63, 9);
            return x.value(s, 1) + " " + x.value(s, 63);
        }, "3 " + mod(powerOf2(64) - 1));
    }

    private static BigInteger binomial(int n, int k) {
        BigInteger b = BigInteger.ONE;
        for (int i = 1; i <= k; i++) {
            b = b.multiply(BigInteger.valueOf(n - k + i)).divide(BigInteger.valueOf(i));
        }
        return b.mod(BigInteger.valueOf(MODULUS));
    }

    /** The sum, the product, the CONVOLUTION, the SHIFT, the SUMS, the SLOPE, the WOVEN one. */
    private static void kinds() {
        for (String kind : KINDS) {
            edge(kind + " at all places", x -> row(x, make(x, kind, geometric(x, 3, 5), geometric(x, 2, 7))),
                    row(made(kind, geometricDue(3, 5), geometricDue(2, 7))));
            edge(kind + " the other way round", x -> {
                int f = geometric(x, 3, 5);
                int g = geometric(x, 2, 7);
                return row(x, make(x, kind, g, f));
            }, row(made(kind, geometricDue(2, 7), geometricDue(3, 5))));
            edge(kind + " of the same twice", x -> {
                int f = geometric(x, 3, 5);
                return row(x, make(x, kind, f, f));
            }, row(made(kind, geometricDue(3, 5), geometricDue(3, 5))));
            edge(kind + " of zeros", x -> row(x, make(x, kind, x.function(1), x.function(2))),
                    row(new long[PLACES]));
        }
        for (int n : new int[] {0, 1, 62, 63}) {
            edge("sum at " + n, x -> x.value(x.add(alone(x, n, 3), alone(x, n, 4)), n), 7);
            edge("product at " + n, x -> x.value(x.times(alone(x, n, 3), alone(x, n, 4)), n), 12);
            edge("convolution at " + n + ", i is 0",
                    x -> x.value(x.convolve(alone(x, 0, 3), alone(x, n, 4)), n), 12);
            edge("convolution at " + n + ", i is n",
                    x -> x.value(x.convolve(alone(x, n, 3), alone(x, 0, 4)), n), 12);
            edge("sums at " + n + " with f there", x -> x.value(x.sums(alone(x, n, 3)), n), 3);
            edge("sums at " + n + " with f at 0", x -> x.value(x.sums(alone(x, 0, 3)), n), 3);
        }
        edge("product, only at one and the same place",
                x -> row(x, x.times(alone(x, 4, 3), alone(x, 5, 4))), row(new long[PLACES]));
        edge("convolution of 32 and 31, at 63",
                x -> x.value(x.convolve(alone(x, 32, 3), alone(x, 31, 4)), 63), 12);
        edge("convolution of 32 and 32, beyond 63",
                x -> row(x, x.convolve(alone(x, 32, 3), alone(x, 32, 4))), row(new long[PLACES]));
        edge("convolution of 63 and 1, beyond 63",
                x -> row(x, x.convolve(alone(x, 63, 3), alone(x, 1, 4))), row(new long[PLACES]));
        edge("sums at 62 without f at 63", x -> x.value(x.sums(alone(x, 63, 3)), 62), 0);
        shifts();
        slopes();
        woven();
    }

    private static void shifts() {
        for (int shift = 0; shift <= 8; shift++) {
            int k = shift;
            edge("shift by " + k + " can be", x -> x.shift(x.function(1), k), 1);
            edge("shift by " + k + " at 0", x -> x.value(x.shift(alone(x, k, 5), k), 0), 5);
            edge("shift by " + k + ", the last that isn't above 63",
                    x -> x.value(x.shift(alone(x, 63, 5), k), 63 - k), 5);
            for (int n = 64 - k; n < PLACES; n++) {
                int place = n;
                edge("shift by " + k + " is 0 at " + n, x -> x.value(x.shift(powers(x, 1), k), place), 0);
            }
            edge("shift by " + k + " doesn't begin again",
                    x -> k == 0 ? 0 : x.value(x.shift(alone(x, k - 1, 5), k), 63), 0);
        }
        edge("shift by 8 eight times is 0 everywhere", x -> {
            int f = powers(x, 3);
            for (int i = 0; i < 8; i++) {
                f = x.shift(f, 8);
            }
            return row(x, f);
        }, row(new long[PLACES]));
    }

    private static void slopes() {
        edge("slope at 0 is f at 1", x -> x.value(x.derive(alone(x, 1, 5)), 0), 5);
        edge("slope leaves out f at 0", x -> row(x, x.derive(alone(x, 0, 5))), row(new long[PLACES]));
        edge("slope at 62 is 63 times f at 63", x -> x.value(x.derive(alone(x, 63, 5)), 62), 315);
        edge("slope at 63 is 0", x -> x.value(x.derive(powers(x, 1)), 63), 0);
        edge("slope at 63 isn't 64 times f at 0", x -> x.value(x.derive(alone(x, 0, 1)), 63), 0);
        edge("39 slopes of slopes leave 39 factorial at 0", x -> {
            int f = alone(x, 39, 1);
            for (int i = 0; i < 39; i++) {
                f = x.derive(f);
            }
            return x.value(f, 0);
        }, factorial(39));
    }

    private static long factorial(int n) {
        long v = 1;
        for (int i = 2; i <= n; i++) {
            v = mod(v * i);
        }
        return v;
    }

    private static void woven() {
        edge("woven at 0 is f at 0", x -> x.value(x.weave(alone(x, 0, 5), x.function(1)), 0), 5);
        edge("woven at 1 is g at 0", x -> x.value(x.weave(x.function(1), alone(x, 0, 5)), 1), 5);
        edge("woven at 2 is f at 1", x -> x.value(x.weave(alone(x, 1, 5), x.function(1)), 2), 5);
        edge("woven at 3 is g at 1", x -> x.value(x.weave(x.function(1), alone(x, 1, 5)), 3), 5);
        edge("woven at 62 is f at 31", x -> x.value(x.weave(alone(x, 31, 5), x.function(1)), 62), 5);
        edge("woven at 63 is g at 31", x -> x.value(x.weave(x.function(1), alone(x, 31, 5)), 63), 5);
        edge("woven has no f at 32",
                x -> row(x, x.weave(alone(x, 32, 5), x.function(1))), row(new long[PLACES]));
        edge("woven has no g at 32",
                x -> row(x, x.weave(x.function(1), alone(x, 32, 5))), row(new long[PLACES]));
    }

    /** "A RULE of order r, 0 .. 4, and degree d, 0 .. 3 .. HOLDS for f if at each n from 0 to 63 - r". */
    private static void rules() {
        for (int order = 0; order <= 4; order++) {
            for (int degree = 0; degree <= 3; degree++) {
                int r = order;
                int d = degree;
                int all = (r + 1) * (d + 1);
                String what = "order " + r + ", degree " + d;
                edge(what + ", all hold for zeros", x -> x.guess(x.function(1), r, d), all);
                edge(what + ", the base for zeros", x -> {
                    x.guess(x.function(1), r, d);
                    return baseText(x, all, r, d);
                }, units(all, all));
                edge(what + ", none holds for numbers without rules", x -> x.guess(unruly(x), r, d), 0);
                edge(what + ", f at 0 alone: 0 to the 0 is 1",
                        x -> x.guess(alone(x, 0, 5), r, d), all - 1);
                edge(what + ", f at 0 alone: 0 to another is 0", x -> {
                    x.guess(alone(x, 0, 5), r, d);
                    return baseText(x, all - 1, r, d);
                }, units(all - 1, all));
            }
            lastPlaces(order);
        }
    }

    /** With f at 63 alone the last n, 63 - r, asks for c r to be 0; one more or fewer would not. */
    private static void lastPlaces(int r) {
        edge("order " + r + ", f at 63 alone", x -> x.guess(alone(x, 63, 5), r, 0), r);
        edge("order " + r + ", f at 63 alone, the base", x -> {
            x.guess(alone(x, 63, 5), r, 0);
            return baseText(x, r, r, 0);
        }, lowerUnits(r));
        edge("order " + r + ", f at 63 alone, degree 1: n - (63 - r)", x -> {
            x.guess(alone(x, 63, 5), r, 1);
            return x.rule(0, r, 1) + " " + x.rule(0, r, 0);
        }, "1 " + mod(-(63 - r)));
        edge("order " + r + ", f at 63 alone, degree 1, how many",
                x -> x.guess(alone(x, 63, 5), r, 1), 2 * r + 1);
        edge("order " + r + ", f at 62 alone, how many",
                x -> x.guess(alone(x, 62, 5), r, 0), r < 2 ? 0 : r - 1);
    }

    /** Each of these is its forerunner's square and some more: no rule holds for them. */
    private static int unruly(HolonomicRows x) {
        long[] a = new long[PLACES];
        long v = 12345;
        for (int n = 0; n < PLACES; n++) {
            v = mod(v * v + 31 * n + 7);
            a[n] = v;
        }
        return listed(x, a);
    }

    /** Members 0 .. members - 1 in the order of the document's COLUMNS. */
    private static String baseText(HolonomicRows x, int members, int r, int d) {
        StringBuilder text = new StringBuilder();
        for (int k = 0; k < members; k++) {
            for (int i = r; i >= 0; i--) {
                for (int j = d; j >= 0; j--) {
                    text.append(x.rule(k, i, j)).append(' ');
                }
            }
            text.append("| ");
        }
        return text.toString();
    }

    private static String units(int members, int columns) {
        StringBuilder text = new StringBuilder();
        for (int k = 0; k < members; k++) {
            for (int c = 0; c < columns; c++) {
                text.append(c == k ? "1 " : "0 ");
            }
            text.append("| ");
        }
        return text.toString();
    }

    /** All units but that at the first column. */
    private static String lowerUnits(int r) {
        StringBuilder text = new StringBuilder();
        for (int k = 1; k <= r; k++) {
            for (int c = 0; c <= r; c++) {
                text.append(c == k ? "1 " : "0 ");
            }
            text.append("| ");
        }
        return text.toString();
    }

    private static String told(long... numbers) {
        StringBuilder text = new StringBuilder();
        for (long v : numbers) {
            text.append(mod(v)).append(' ');
        }
        return text.append("| ").toString();
    }

    /** ".. each member has 1 at the first COLUMN .., later ones begin at later COLUMNS, and have 0 ..". */
    private static void bases() {
        edge("one column, one member", x -> {
            x.guess(x.function(1), 0, 0);
            return baseText(x, 1, 0, 0);
        }, told(1));
        edge("Fibonacci's of order 4: 0 where others begin", x -> {
            x.guess(fibonacci(x), 4, 0);
            return baseText(x, 3, 4, 0);
        }, told(1, 0, 0, -3, -2) + told(0, 1, 0, -2, -1) + told(0, 0, 1, -1, -1));
        edge("Fibonacci's of order 4, how many", x -> x.guess(fibonacci(x), 4, 0), 3);
        edge("2 to the n, order 1, degree 3", x -> {
            x.guess(powers(x, 2), 1, 3);
            return baseText(x, 4, 1, 3);
        }, told(1, 0, 0, 0, -2, 0, 0, 0) + told(0, 1, 0, 0, 0, -2, 0, 0)
                + told(0, 0, 1, 0, 0, 0, -2, 0) + told(0, 0, 0, 1, 0, 0, 0, -2));
        edge("1 made at the first column, not at the last", x -> {
            x.guess(powers(x, 16002), 1, 0);
            return baseText(x, 1, 1, 0);
        }, told(1, -16002));
        edge("a member that begins late: f at n alone", x -> {
            x.guess(alone(x, 63, 1), 1, 0);
            return baseText(x, 1, 1, 0);
        }, told(0, 1));
        edge("n to the 3 wraps around: (n - 61) (n - 62) (n - 63)", x -> {
            int f = alone(x, 61, 1);
            x.start(f, 62, 2);
            x.start(f, 63, 3);
            x.guess(f, 0, 3);
            return baseText(x, 1, 0, 3);
        }, told(1, -186, 61 * 62 + 61 * 63 + 62 * 63, -61 * 62 * 63));
        edge("n to the 3 from 32 on is above the numbers", x -> {
            int f = alone(x, 0, 1);
            x.start(f, 32, 2);
            x.start(f, 31, 3);
            x.guess(f, 0, 3);
            return baseText(x, 1, 0, 3);
        }, told(1, -63, 31 * 32, 0));
        edge("places enough for no rule of degree 3", x -> x.guess(listed(x, 1, 2, 3, 4), 0, 3), 0);
        edge("places few enough for one", x -> x.guess(listed(x, 1, 2, 3), 0, 3), 1);
        edge("only f at 63 speaks against a rule", x -> {
            int f = x.add(fibonacci(x), alone(x, 63, 1));
            return x.guess(f, 2, 0);
        }, 0);
        edge("only f at 0 speaks against a rule", x -> {
            int f = x.add(fibonacci(x), alone(x, 0, 1));
            return x.guess(f, 2, 0);
        }, 0);
        edge("only f at 0 speaks against it: n times it holds", x -> {
            x.guess(x.add(fibonacci(x), alone(x, 0, 1)), 2, 1);
            return baseText(x, 1, 2, 1);
        }, told(1, 0, -1, 0, -1, 0));
        edge("the factor's root at 63 - r only", x -> {
            x.guess(x.add(fibonacci(x), alone(x, 63, 1)), 2, 1);
            return baseText(x, 1, 2, 1);
        }, told(1, -61, -1, 61, -1, 61));
    }

    public static void main(String[] args) {
        callLimit();
        numbers();
        placesAndNumbers();
        ordersAndFactors();
        recurrences();
        stayWhatTheyAre();
        kinds();
        rules();
        bases();
        System.out.println(wrong == 0 ? "all " + cases + " edges are as due"
                : wrong + " edges are not as due");
        if (wrong != 0) {
            System.exit(1);
        }
    }
}
