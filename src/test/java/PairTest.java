import java.util.Random;

/** Functions of two arguments and fused ones, with the flags (promises 7, 11, 12 and 15). */
public final class PairTest {
    private static final int[][] SMALL = {{2, 1}, {2, 2}, {3, 1}, {2, 3}, {3, 2}, {4, 1}};
    private static final int[][] LARGE = {{2, 4}, {2, 5}, {2, 6}, {3, 3}, {3, 4}, {3, 5}, {3, 6}, {4, 2}, {4, 3},
        {4, 4}, {4, 5}, {4, 6}};
    private final Tally tally = new Tally();
    private final Random random = new Random(1);

    public static void main(String[] args) {
        PairTest test = new PairTest();
        for (int[] format : SMALL) {
            test.everyPair(new Oracle(format[0], format[1]));
        }
        for (int[] format : LARGE) {
            test.somePairs(new Oracle(format[0], format[1]));
        }
        test.everyFused(new Oracle(2, 1));
        for (int[] format : SMALL) {
            test.someFused(new Oracle(format[0], format[1]));
        }
        for (int[] format : LARGE) {
            test.someFused(new Oracle(format[0], format[1]));
        }
        test.everyPower(new Oracle(4, 6));
        test.conversions();
        test.tally.close("PairTest");
    }

    private void everyPair(Oracle oracle) {
        Houses houses = new Houses(oracle.exponents, oracle.fractions);
        for (int a = 0; a < oracle.size(); a++) {
            for (int b = 0; b < oracle.size(); b++) {
                for (char function : Oracle.PAIRS.toCharArray()) {
                    for (char rounding : Oracle.ROUNDINGS.toCharArray()) {
                        ask(houses, oracle, function, a, b, rounding);
                    }
                }
                compare(houses, oracle, a, b);
                lacking(houses, oracle, '+', a, b);
                lacking(houses, oracle, '*', a, b);
            }
        }
    }

    private void somePairs(Oracle oracle) {
        Houses houses = new Houses(oracle.exponents, oracle.fractions);
        for (int i = 0; i < 2500; i++) {
            int a = random.nextInt(oracle.size());
            int b = random.nextInt(4) == 0 ? edge(oracle) : random.nextInt(oracle.size());
            for (char function : Oracle.PAIRS.toCharArray()) {
                ask(houses, oracle, function, a, b, rounding());
                ask(houses, oracle, function, b, a, rounding());
            }
            compare(houses, oracle, a, b);
            compare(houses, oracle, b, a);
            lacking(houses, oracle, '+', a, b);
            lacking(houses, oracle, '*', a, b);
        }
    }

    private int edge(Oracle oracle) {
        int one = oracle.bias << oracle.fractions;
        int[] edges = {0, 1, one, one - 1, one + 1, oracle.infinite - 1, oracle.infinite, oracle.none,
            oracle.signBit - 1, 1 << oracle.fractions, (1 << oracle.fractions) - 1};
        int code = edges[random.nextInt(edges.length)];
        return random.nextBoolean() ? code : code + oracle.signBit;
    }

    private char rounding() {
        return Oracle.ROUNDINGS.charAt(random.nextInt(5));
    }

    private void ask(Houses houses, Oracle oracle, char function, int a, int b, char rounding) {
        Ulphouse house = houses.forCalls(2);
        oracle.flags = 0;
        int want = oracle.two(function, a, b, rounding);
        String what = name(oracle) + a + " " + function + " " + b + " " + rounding;
        tally.due(what, house.two(0, function, a, b, rounding), want);
        tally.due("flags of " + what, house.clearFlags(), oracle.flags);
    }

    private static String name(Oracle oracle) {
        return "(" + oracle.exponents + "," + oracle.fractions + ") ";
    }

    private void compare(Houses houses, Oracle oracle, int a, int b) {
        char want = 'u';
        if (!oracle.isNone(a) && !oracle.isNone(b)) {
            double first = worth(oracle, a);
            double second = worth(oracle, b);
            want = first < second ? 'l' : first > second ? 'g' : 'e';
        }
        tally.due(name(oracle) + "compare " + a + " " + b, houses.forCalls(1).compare(0, a, b), want);
    }

    private static double worth(Oracle oracle, int code) {
        double amount = oracle.isInfinite(code) ? Double.POSITIVE_INFINITY
            : oracle.amounts[oracle.bare(code)].doubleValue();
        return oracle.isMinus(code) ? -amount : amount;
    }

    /** 0 or more is a code; -1 stands for ArithmeticException and -2 for NoSuchElementException. */
    private void lacking(Houses houses, Oracle oracle, char function, int a, int b) {
        int want = -1;
        if (oracle.isFinite(a) && oracle.isFinite(b)) {
            int near = oracle.near(function, a, b);
            if (oracle.isFinite(near)) {
                java.math.BigDecimal x = oracle.value(a);
                java.math.BigDecimal y = oracle.value(b);
                java.math.BigDecimal left = (function == '+' ? x.add(y) : x.multiply(y)).subtract(oracle.value(near));
                want = -2;
                for (int code = 0; code < oracle.size() && want < 0; code++) {
                    if (oracle.isFinite(code) && oracle.value(code).compareTo(left) == 0) {
                        want = code;
                    }
                }
            }
        }
        int got;
        try {
            got = houses.forCalls(1).rest(0, function, a, b);
        } catch (ArithmeticException e) {
            got = -1;
        } catch (java.util.NoSuchElementException e) {
            got = -2;
        }
        tally.due(name(oracle) + "rest " + a + " " + function + " " + b, got, want);
        tally.holds("a rest of a sum is always a value", function == '*' || got != -2);
    }

    private void someFused(Oracle oracle) {
        Houses houses = new Houses(oracle.exponents, oracle.fractions);
        for (int i = 0; i < 20000; i++) {
            int a = random.nextInt(8) == 0 ? edge(oracle) : random.nextInt(oracle.size());
            int b = random.nextInt(8) == 0 ? edge(oracle) : random.nextInt(oracle.size());
            int c = random.nextInt(4) == 0 ? edge(oracle) : random.nextInt(oracle.size());
            char rounding = rounding();
            int near = oracle.near('*', a, b);
            c = random.nextInt(4) == 0 ? oracle.signed(!oracle.isMinus(near), oracle.bare(near)) : c;
            fused(houses, oracle, a, b, c, rounding);
        }
    }

    private void everyFused(Oracle oracle) {
        Houses houses = new Houses(oracle.exponents, oracle.fractions);
        for (int codes = 0; codes < oracle.size() * oracle.size() * oracle.size(); codes++) {
            int b = codes / oracle.size() % oracle.size();
            int c = codes / oracle.size() / oracle.size();
            for (char rounding : Oracle.ROUNDINGS.toCharArray()) {
                fused(houses, oracle, codes % oracle.size(), b, c, rounding);
            }
        }
    }

    private void fused(Houses houses, Oracle oracle, int a, int b, int c, char rounding) {
        oracle.flags = 0;
        int want = oracle.fused(a, b, c, rounding);
        Ulphouse house = houses.forCalls(2);
        String what = name(oracle) + "fused " + a + " " + b + " " + c + " " + rounding;
        tally.due(what, house.fused(0, a, b, c, rounding), want);
        tally.due("flags of " + what, house.clearFlags(), oracle.flags);
    }

    /** Doubles decide where they surely can, and only what they leave is worked out with a hundred digits. */
    private void everyPower(Oracle oracle) {
        Houses houses = new Houses(4, 6);
        double[] limits = new double[2 * oracle.infinite + 2];
        for (int i = 0; i < oracle.infinite; i++) {
            limits[2 * i] = oracle.amounts[i].doubleValue();
        }
        limits[2 * oracle.infinite] = 256;
        for (int i = 1; i < limits.length - 1; i += 2) {
            limits[i] = (limits[i - 1] + limits[i + 1]) / 2;
        }
        limits[limits.length - 1] = Double.POSITIVE_INFINITY;
        int anew = 0;
        for (int a = 1; a < oracle.infinite; a++) {
            for (int b = 1; b < oracle.signBit + oracle.infinite; b++) {
                if (oracle.isFinite(b) && !oracle.isZero(b)) {
                    double result = Math.pow(limits[2 * a], worth(oracle, b));
                    int at = between(limits, result);
                    if (isNear(result, limits[at]) || isNear(result, limits[at + 1])) {
                        ask(houses, oracle, 'p', a, b, 'z');
                        ask(houses, oracle, 'p', a, b, 'n');
                        anew++;
                    } else {
                        power(houses.forCalls(4), oracle, a, b, at);
                    }
                }
            }
        }
        tally.holds("some powers are near a limit, but few", anew > 0 && anew < 100000);
    }

    private static boolean isNear(double result, double limit) {
        return Math.abs(result - limit) <= 1e-11 * result;
    }

    private static int between(double[] limits, double result) {
        int low = 0;
        int high = limits.length - 1;
        while (high - low > 1) {
            int middle = (low + high) / 2;
            if (limits[middle] <= result) {
                low = middle;
            } else {
                high = middle;
            }
        }
        return low;
    }

    /** The result lies strictly between two limits: values have even places, midpoints odd ones. */
    private void power(Ulphouse house, Oracle oracle, int a, int b, int at) {
        boolean isOver = at == 2 * oracle.infinite;
        int below = Math.min(at / 2, oracle.infinite - 1);
        tally.due("power " + a + " " + b, house.two(0, 'p', a, b, 'z'), below);
        int flags = isOver ? 5 : at / 2 < 64 ? 3 : 1;
        tally.due("flags of power " + a + " " + b, house.clearFlags(), flags);
        tally.due("power by n " + a + " " + b, house.two(0, 'p', a, b, 'n'), (at + 1) / 2);
        int flagsByN = at >= 2 * oracle.infinite - 1 ? 5 : flags;
        tally.due("flags of power by n " + a + " " + b, house.clearFlags(), flagsByN);
    }

    private void conversions() {
        for (int e = 2; e <= 4; e++) {
            for (int m = 1; m <= 6; m++) {
                for (int[] to : LARGE) {
                    convert(new Oracle(e, m), new Oracle(to[0], to[1]));
                }
                for (int[] to : SMALL) {
                    convert(new Oracle(e, m), new Oracle(to[0], to[1]));
                }
            }
        }
    }

    private void convert(Oracle from, Oracle to) {
        Houses houses = new Houses(from.exponents, from.fractions, to.exponents, to.fractions);
        for (int code = 0; code < from.size(); code++) {
            for (char rounding : Oracle.ROUNDINGS.toCharArray()) {
                to.flags = 0;
                int want = from.convert(code, to, rounding);
                Ulphouse house = houses.forCalls(2);
                String what = name(from) + name(to) + "convert " + code + " " + rounding;
                tally.due(what, house.convert(0, code, 1, rounding), want);
                tally.due("flags of " + what, house.clearFlags(), to.flags);
            }
        }
    }
}
