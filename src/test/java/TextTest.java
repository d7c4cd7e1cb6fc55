import java.math.BigDecimal;
import java.util.NoSuchElementException;
import java.util.Random;

/** Texts to numbers, and the shortest texts back (promises 31 to 35). */
public final class TextTest {
    private final Tally tally = new Tally();
    private final Random random = new Random(4);

    public static void main(String[] args) {
        TextTest test = new TextTest();
        for (int e = 2; e <= 4; e++) {
            for (int m = 1; m <= 6; m++) {
                Oracle oracle = new Oracle(e, m);
                Houses houses = new Houses(e, m);
                test.shortest(houses, oracle);
                test.midpoints(houses, oracle);
                for (int i = 0; i < 1500; i++) {
                    test.read(houses, oracle, test.anyText());
                }
            }
        }
        test.tally.close("TextTest");
    }

    private static String name(Oracle oracle) {
        return "(" + oracle.exponents + "," + oracle.fractions + ") ";
    }

    private String anyText() {
        StringBuilder text = new StringBuilder();
        String signs = random.nextInt(3) == 0 ? "-.0123456789" : random.nextBoolean() ? "0.123456789" : "0000.12";
        if (random.nextInt(4) == 0) {
            text.append('-');
        }
        int length = random.nextInt(11);
        while (text.length() < length) {
            text.append(signs.charAt(random.nextInt(signs.length())));
        }
        return text.toString();
    }

    private void read(Houses houses, Oracle oracle, String text) {
        Ulphouse house = houses.forCalls(20);
        house.erase();
        for (int i = 0; i < text.length(); i++) {
            tally.due("type", house.type(text.charAt(i)), i + 1);
        }
        char rounding = Oracle.ROUNDINGS.charAt(random.nextInt(5));
        oracle.flags = 0;
        int want = -1;
        if (text.matches("-?([0-9]+\\.?[0-9]*|\\.[0-9]+)")) {
            BigDecimal number = new BigDecimal(text.endsWith(".") ? text + "0" : text);
            want = number.signum() == 0 ? oracle.signed(text.startsWith("-"), 0) : oracle.round(number, rounding);
        }
        int got;
        try {
            got = house.read(0, rounding);
        } catch (NoSuchElementException e) {
            got = -1;
        }
        tally.due(name(oracle) + "read " + text + " " + rounding, got, want);
        tally.due(name(oracle) + "flags of " + text + " " + rounding, house.clearFlags(), oracle.flags);
        tally.due("erase", house.erase(), text.length());
    }

    /** Values and midpoints that ten signs can tell are met exactly. */
    private void midpoints(Houses houses, Oracle oracle) {
        for (int code = 1; code < oracle.infinite; code++) {
            BigDecimal middle = oracle.amounts[code].add(oracle.amounts[code - 1]).divide(Oracle.TWO);
            for (BigDecimal number : new BigDecimal[] {oracle.amounts[code], middle}) {
                String text = number.stripTrailingZeros().toPlainString();
                text = text.startsWith("0.") ? text.substring(1) : text;
                if (text.length() <= 10) {
                    read(houses, oracle, text);
                }
                if (text.length() <= 9) {
                    read(houses, oracle, "-" + text);
                }
            }
        }
        BigDecimal limit = oracle.greatest.add(oracle.step.divide(Oracle.TWO));
        read(houses, oracle, limit.toPlainString());
        read(houses, oracle, oracle.greatest.add(oracle.step).toPlainString());
    }

    private void shortest(Houses houses, Oracle oracle) {
        for (int code = 0; code < oracle.size(); code++) {
            if (oracle.isFinite(code) && !oracle.isZero(code)) {
                BigDecimal want = shortestOf(oracle, oracle.bare(code));
                Ulphouse house = houses.forCalls(2);
                long digits = want.unscaledValue().longValueExact();
                String what = name(oracle) + code;
                tally.due("digits " + what, house.digits(0, code), oracle.isMinus(code) ? -digits : digits);
                tally.due("power " + what, house.power(0, code), -want.scale());
            }
        }
    }

    /** Every number of so many digits and every power of 10 is tried, the fewest digits first. */
    private static BigDecimal shortestOf(Oracle oracle, int code) {
        BigDecimal value = oracle.amounts[code];
        for (int first = 1; first <= 1000; first *= 10) {
            BigDecimal best = null;
            for (int scale = -3; scale <= 8; scale++) {
                int near = value.movePointRight(scale).min(new BigDecimal(1000000)).intValue();
                int from = Math.max(first, near - 40);
                for (int digits = from; digits < Math.min(10 * first, from + 80); digits++) {
                    BigDecimal tried = BigDecimal.valueOf(digits, scale);
                    boolean counts = digits % 10 != 0 && oracle.round(tried, 'n') == code;
                    if (counts && (best == null || isBetter(tried, best, value))) {
                        best = tried;
                    }
                }
            }
            if (best != null) {
                return best;
            }
        }
        return null;
    }

    private static boolean isBetter(BigDecimal tried, BigDecimal best, BigDecimal value) {
        int side = tried.subtract(value).abs().compareTo(best.subtract(value).abs());
        return side < 0 || side == 0 && tried.compareTo(best) < 0;
    }
}
