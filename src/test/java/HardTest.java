import java.math.BigDecimal;
import java.math.RoundingMode;
import java.util.NoSuchElementException;
import java.util.Random;

/** Reducing, hard cases, quick answers, tables, lines, ways and shares (promises 3 to 5, 20 to 28, 39 to 42). */
public final class HardTest {
    private final Tally tally = new Tally();
    private final Random random = new Random(2);

    public static void main(String[] args) {
        HardTest test = new HardTest();
        for (int e = 2; e <= 4; e++) {
            for (int m = 1; m <= 6; m++) {
                test.all(e, m);
                for (int wide = m + 1; wide <= 6; wide++) {
                    test.quick(e, m, wide);
                }
            }
        }
        test.tally.close("HardTest");
    }

    private void all(int e, int m) {
        Oracle oracle = new Oracle(e, m);
        Houses houses = new Houses(e, m);
        for (char function : Oracle.SINGLES.toCharArray()) {
            int[] gaps = distances(houses, oracle, function);
            hardest(houses, oracle, function, gaps);
            places(houses, oracle, function, gaps);
            lines(houses, oracle, function);
            ways(houses, oracle, function);
        }
        reducing(houses, oracle);
        shares(houses, oracle);
    }

    private static String name(Oracle oracle) {
        return "(" + oracle.exponents + "," + oracle.fractions + ") ";
    }

    private int[] distances(Houses houses, Oracle oracle, char function) {
        int[] gaps = new int[oracle.size()];
        for (int code = 0; code < oracle.size(); code++) {
            gaps[code] = oracle.gap(function, code);
            int got;
            try {
                got = houses.forCalls(1).distance(0, function, code);
            } catch (NoSuchElementException e) {
                got = -1;
            }
            tally.due(name(oracle) + "distance " + function + code, got, gaps[code]);
        }
        return gaps;
    }

    private void hardest(Houses houses, Oracle oracle, char function, int[] gaps) {
        int want = -1;
        for (int code = 0; code < gaps.length; code++) {
            if (gaps[code] >= 0 && (want < 0 || gaps[code] < gaps[want])) {
                want = code;
            }
        }
        int got;
        try {
            got = houses.forCalls(1).hardest(0, function);
        } catch (NoSuchElementException e) {
            got = -1;
        }
        tally.due(name(oracle) + "hardest " + function, got, want);
    }

    private void places(Houses houses, Oracle oracle, char function, int[] gaps) {
        for (int i = 0; i < 120; i++) {
            int code = random.nextInt(oracle.size());
            int around = random.nextInt(17);
            int want = -1;
            for (int tried = Math.max(0, code - around); tried <= Math.min(code + around, oracle.size() - 1); tried++) {
                boolean counts = oracle.isFinite(tried) && oracle.value(tried).signum() >= 0 && gaps[tried] >= 0;
                if (counts && (want < 0 || gaps[tried] > gaps[want])) {
                    want = tried;
                }
            }
            int got;
            try {
                got = houses.forCalls(1).place(0, function, code, around);
            } catch (NoSuchElementException e) {
                got = -1;
            }
            tally.due(name(oracle) + "place " + function + code + " " + around, got, want);
        }
    }

    private void lines(Houses houses, Oracle oracle, char function) {
        for (int i = 0; i < 60; i++) {
            int from = random.nextInt(oracle.size());
            int to = Math.min(from + random.nextInt(24), oracle.size() - 1);
            int got;
            try {
                got = houses.forCalls(1).line(0, function, from, to);
            } catch (ArithmeticException e) {
                got = -1;
            }
            tally.due(name(oracle) + "line " + function + from + " " + to, got, lineError(oracle, function, from, to));
        }
    }

    /** The error of a slope is half of how far the points spread; a best slope joins two of the points. */
    private static int lineError(Oracle oracle, char function, int from, int to) {
        long[] y = new long[to - from + 1];
        for (int i = 0; i < y.length; i++) {
            int answer = oracle.one(function, from + i, 'n');
            if (!oracle.isFinite(answer)) {
                return -1;
            }
            y[i] = oracle.value(answer).multiply(new BigDecimal(4096)).longValueExact();
        }
        long best = y.length == 1 ? 0 : Long.MAX_VALUE;
        for (int j = 0; j < y.length; j++) {
            for (int k = j + 1; k < y.length; k++) {
                long highest = Long.MIN_VALUE;
                long lowest = Long.MAX_VALUE;
                for (int i = 0; i < y.length; i++) {
                    long off = y[i] * (k - j) - i * (y[k] - y[j]);
                    highest = Math.max(highest, off);
                    lowest = Math.min(lowest, off);
                }
                best = Math.min(best, 4096 * (highest - lowest) / (2 * (k - j)));
            }
        }
        return (int) best;
    }

    private void ways(Houses houses, Oracle oracle, char function) {
        for (char rounding : Oracle.ROUNDINGS.toCharArray()) {
            boolean isRising = true;
            boolean isFalling = true;
            BigDecimal last = null;
            for (int i = 0; i < 2 * oracle.infinite; i++) {
                int code = i < oracle.infinite ? oracle.signBit + oracle.infinite - 1 - i : i - oracle.infinite;
                int answer = oracle.one(function, code, rounding);
                if (oracle.isFinite(answer)) {
                    BigDecimal next = oracle.value(answer);
                    isRising &= last == null || next.compareTo(last) >= 0;
                    isFalling &= last == null || next.compareTo(last) <= 0;
                    last = next;
                }
            }
            tally.holds(name(oracle) + "isMonotone " + function + rounding,
                houses.forCalls(1).isMonotone(0, function, rounding) == (isRising || isFalling));
        }
    }

    private void reducing(Houses houses, Oracle oracle) {
        BigDecimal half = Oracle.PI.divide(Oracle.TWO);
        int most = -1;
        BigDecimal least = null;
        for (int code = 0; code < oracle.size(); code++) {
            if (!oracle.isFinite(code)) {
                continue;
            }
            BigDecimal x = oracle.value(code);
            BigDecimal k = x.divide(half, Oracle.EXACT).setScale(0, RoundingMode.HALF_EVEN);
            BigDecimal rest = x.subtract(k.multiply(half));
            tally.due(name(oracle) + "quarter " + code, houses.forCalls(1).quarter(0, code), k.longValueExact());
            int want = oracle.isZero(code) ? code : oracle.round(rest, 'n');
            tally.due(name(oracle) + "reduced " + code, houses.forCalls(1).reduced(0, code), want);
            if (x.signum() > 0 && k.signum() != 0 && (least == null || rest.abs().compareTo(least) < 0)) {
                least = rest.abs();
                most = code;
            }
        }
        tally.due(name(oracle) + "cancels", houses.forCalls(1).cancels(0), most);
    }

    private void shares(Houses houses, Oracle oracle) {
        int finite = 0;
        long total = 0;
        int counted = 0;
        for (int code = 0; code < oracle.size(); code++) {
            Ulphouse house = houses.forCalls(3);
            if (oracle.isFinite(code)) {
                finite++;
                float asFloat = oracle.value(code).floatValue();
                asFloat = oracle.isMinus(code) && asFloat == 0 ? -0f : asFloat;
                tally.due(name(oracle) + "floatBits " + code, house.floatBits(0, code), Float.floatToIntBits(asFloat));
                int units = oracle.value(code).multiply(new BigDecimal(4096)).intValueExact();
                tally.due(name(oracle) + "value " + code, house.value(0, code), units);
                if (!oracle.isMinus(code)) {
                    total += units;
                    counted++;
                }
            }
            tally.due(name(oracle) + "kind " + code, house.kind(0, code), kind(oracle, code));
        }
        Ulphouse house = houses.forCalls(3);
        tally.due(name(oracle) + "codes", house.codes(0), oracle.size());
        tally.holds(name(oracle) + "finiteShare", house.finiteShare(0) == (float) finite / (float) oracle.size());
        tally.holds(name(oracle) + "meanValue", house.meanValue(0) == (double) total / (double) counted / 4096.0);
    }

    private static char kind(Oracle oracle, int code) {
        if (oracle.isNone(code) || oracle.isInfinite(code)) {
            return oracle.isNone(code) ? 'x' : 'i';
        }
        BigDecimal amount = oracle.value(code).abs();
        return amount.signum() == 0 ? '0' : amount.compareTo(oracle.least) < 0 ? 's' : 'n';
    }

    private void quick(int e, int m, int wide) {
        Oracle oracle = new Oracle(e, m);
        Oracle other = new Oracle(e, wide);
        Houses houses = new Houses(e, wide, e, m);
        for (char function : Oracle.SINGLES.toCharArray()) {
            String what = name(oracle) + name(other) + function;
            Ulphouse house = houses.forCalls(3);
            tally.due("slow " + what, house.slow(1, 0, function), oracle.slow(other, function));
            tally.due("wrong " + what, house.wrong(1, 0, function), oracle.wrong(other, function));
            tally.due("flags after " + what, house.flags(), 0);
        }
    }
}
