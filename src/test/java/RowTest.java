import java.math.BigDecimal;
import java.util.Random;

/** Rows, digits of quotients and polynomials against the document's words (promises 16 to 19, 29 and 30). */
public final class RowTest {
    private final Tally tally = new Tally();
    private final Random random = new Random(3);

    public static void main(String[] args) {
        RowTest test = new RowTest();
        for (int e = 2; e <= 4; e++) {
            for (int m = 1; m <= 6; m++) {
                Oracle oracle = new Oracle(e, m);
                Houses houses = new Houses(e, m);
                test.rows(houses, oracle);
                test.quotients(houses, oracle);
                test.polynomials(houses, oracle);
            }
        }
        test.tally.close("RowTest");
    }

    private static String name(Oracle oracle) {
        return "(" + oracle.exponents + "," + oracle.fractions + ") ";
    }

    private int finite(Oracle oracle) {
        // half of the codes are near one another, so that sums cancel
        int bare = random.nextBoolean() ? random.nextInt(oracle.infinite)
            : Math.max(0, oracle.infinite / 2 - random.nextInt(1 << oracle.fractions + 1));
        return oracle.signed(random.nextBoolean(), bare);
    }

    private void rows(Houses houses, Oracle oracle) {
        for (int run = 0; run < 300; run++) {
            Ulphouse house = houses.forCalls(50);
            house.empty();
            int[] codes = new int[random.nextInt(21)];
            for (int i = 0; i < codes.length; i++) {
                codes[i] = finite(oracle);
                tally.due("add", house.add(0, codes[i]), i + 1);
            }
            if (codes.length == 0) {
                house.add(0, 0);
                house.empty();
            }
            for (char rounding : Oracle.ROUNDINGS.toCharArray()) {
                String what = name(oracle) + java.util.Arrays.toString(codes) + rounding;
                tally.due("p " + what, house.sum('p', rounding), plainly(oracle, codes));
                tally.due("c " + what, house.sum('c', rounding), carefully(oracle, codes));
                tally.due("e " + what, house.sum('e', rounding), exactly(oracle, codes, rounding));
                tally.due("d " + what, house.sum('d', rounding), dot(oracle, codes, rounding));
            }
            tally.due("flags after sums", house.flags(), 0);
            tally.due("empty", house.empty(), codes.length);
        }
    }

    private static int plainly(Oracle oracle, int[] codes) {
        int sum = 0;
        for (int code : codes) {
            sum = oracle.near('+', sum, code);
        }
        return sum;
    }

    private static int carefully(Oracle oracle, int[] codes) {
        int sum = 0;
        int rest = 0;
        for (int a : codes) {
            int t = oracle.near('+', sum, a);
            if (!oracle.isFinite(t)) {
                return t;
            }
            if (oracle.value(sum).abs().compareTo(oracle.value(a).abs()) >= 0) {
                rest = oracle.near('+', rest, oracle.near('+', oracle.near('-', sum, t), a));
            } else {
                rest = oracle.near('+', rest, oracle.near('+', oracle.near('-', a, t), sum));
            }
            sum = t;
        }
        return oracle.near('+', sum, rest);
    }

    private static int exactly(Oracle oracle, int[] codes, char rounding) {
        BigDecimal sum = BigDecimal.ZERO;
        for (int code : codes) {
            sum = sum.add(oracle.value(code));
        }
        return oracle.rounded(sum, rounding);
    }

    private static int dot(Oracle oracle, int[] codes, char rounding) {
        BigDecimal sum = BigDecimal.ZERO;
        for (int i = 0; i + 1 < codes.length; i += 2) {
            sum = sum.add(oracle.value(codes[i]).multiply(oracle.value(codes[i + 1])));
        }
        return oracle.rounded(sum, rounding);
    }

    private void quotients(Houses houses, Oracle oracle) {
        for (int run = 0; run < 100; run++) {
            int a = finite(oracle);
            int b = finite(oracle);
            if (oracle.isZero(a) || oracle.isZero(b)) {
                continue;
            }
            BigDecimal w = between(oracle.value(a).abs(), new BigDecimal("0.5"));
            BigDecimal v = between(oracle.value(b).abs(), BigDecimal.ONE);
            BigDecimal half = new BigDecimal("0.5");
            for (int index = 0; index < 30; index++) {
                BigDecimal twice = w.multiply(Oracle.TWO);
                int digit = twice.compareTo(half) >= 0 ? 1 : twice.compareTo(half.negate()) < 0 ? -1 : 0;
                w = twice.subtract(v.multiply(new BigDecimal(digit)));
                String what = name(oracle) + "digit " + a + " " + b + " " + index;
                tally.due(what, houses.forCalls(1).digit(0, a, b, index), digit);
            }
        }
    }

    /** Brought by powers of 2 below the limit, and to at least its half. */
    private static BigDecimal between(BigDecimal x, BigDecimal limit) {
        while (x.compareTo(limit) >= 0) {
            x = x.divide(Oracle.TWO);
        }
        while (x.multiply(Oracle.TWO).compareTo(limit) < 0) {
            x = x.multiply(Oracle.TWO);
        }
        return x;
    }

    private void polynomials(Houses houses, Oracle oracle) {
        for (int run = 0; run < 2000; run++) {
            int[] codes = new int[4];
            for (int i = 0; i < 4; i++) {
                codes[i] = random.nextInt(4) == 0 ? random.nextInt(oracle.size()) : finite(oracle);
            }
            polynomial(houses.forCalls(4), oracle, codes, true);
            polynomial(houses.forCalls(4), oracle, codes, false);
        }
    }

    private void polynomial(Ulphouse house, Oracle oracle, int[] codes, boolean isFirst) {
        int c = codes[0];
        int d = codes[1];
        int f = codes[2];
        int x = codes[3];
        int want = isFirst
            ? oracle.near('+', oracle.near('*', oracle.near('+', oracle.near('*', f, x), d), x), c)
            : oracle.near('+', oracle.near('+', c, oracle.near('*', d, x)),
                oracle.near('*', f, oracle.near('*', x, x)));
        String what = name(oracle) + java.util.Arrays.toString(codes) + isFirst;
        tally.due("polynomial " + what, house.polynomial(0, c, d, f, x, isFirst), want);
        long error = -1;
        if (oracle.isFinite(c) && oracle.isFinite(d) && oracle.isFinite(f) && oracle.isFinite(x)
                && oracle.isFinite(want)) {
            BigDecimal at = oracle.value(x);
            BigDecimal due = oracle.value(f).multiply(at).add(oracle.value(d)).multiply(at).add(oracle.value(c));
            error = due.subtract(oracle.value(want)).abs().multiply(Oracle.power2(36)).longValueExact();
        }
        long got;
        try {
            got = house.error(0, c, d, f, x, isFirst);
        } catch (ArithmeticException e) {
            got = -1;
        }
        tally.due("error " + what, got, error);
        tally.due("flags after a polynomial", house.flags(), 0);
    }
}
