import java.math.BigDecimal;
import java.math.BigInteger;
import java.math.MathContext;
import java.math.RoundingMode;
import java.util.ArrayList;
import java.util.HashMap;
import java.util.List;
import java.util.Map;

/**
 * The document's words over BigDecimal, with nothing taken from the class that is tested. True results have a
 * hundred digits; what differs by less than 10 to the power of -60 is taken as the same, for results that differ
 * from what they are compared with do so by far more.
 */
final class Oracle {
    static final MathContext EXACT = new MathContext(100, RoundingMode.HALF_EVEN);
    static final BigDecimal NEAR = new BigDecimal("1e-60");
    static final BigDecimal ONE = BigDecimal.ONE;
    static final BigDecimal TWO = new BigDecimal(2);
    static final BigDecimal LN_2 = ln2();
    static final BigDecimal PI = pi();
    static final String ROUNDINGS = "nazud";
    static final String SINGLES = "qbirelsc";
    static final String PAIRS = "+-*/hp";
    private static final Map<String, BigDecimal> REMEMBERED = new HashMap<>();

    final int exponents;
    final int fractions;
    final int bias;
    final int signBit;
    final int infinite;
    final int none;
    final BigDecimal[] amounts;
    final BigDecimal greatest;
    final BigDecimal step;
    final BigDecimal least;
    int flags;

    Oracle(int exponents, int fractions) {
        this.exponents = exponents;
        this.fractions = fractions;
        bias = (1 << exponents - 1) - 1;
        signBit = 1 << exponents + fractions;
        infinite = ((1 << exponents) - 1) << fractions;
        none = infinite | 1 << fractions - 1;
        amounts = new BigDecimal[infinite];
        for (int code = 0; code < infinite; code++) {
            int x = code >> fractions;
            int f = code & (1 << fractions) - 1;
            amounts[code] = x == 0 ? power2(1 - bias - fractions).multiply(new BigDecimal(f))
                : power2(x - bias - fractions).multiply(new BigDecimal((1 << fractions) + f));
        }
        greatest = amounts[infinite - 1];
        step = greatest.subtract(amounts[infinite - 2]);
        least = power2(1 - bias);
    }

    static BigDecimal power2(int exponent) {
        return exponent >= 0 ? new BigDecimal(BigInteger.ONE.shiftLeft(exponent))
            : ONE.divide(new BigDecimal(BigInteger.ONE.shiftLeft(-exponent)));
    }

    static int compare(BigDecimal a, BigDecimal b) {
        BigDecimal off = a.subtract(b);
        return off.abs().compareTo(NEAR) < 0 ? 0 : off.signum();
    }

    int size() {
        return 2 * signBit;
    }

    boolean isMinus(int code) {
        return code >= signBit;
    }

    int bare(int code) {
        return code % signBit;
    }

    boolean isFinite(int code) {
        return bare(code) < infinite;
    }

    boolean isInfinite(int code) {
        return bare(code) == infinite;
    }

    boolean isNone(int code) {
        return bare(code) > infinite;
    }

    boolean isZero(int code) {
        return bare(code) == 0;
    }

    int signed(boolean isMinus, int bare) {
        return isMinus ? bare + signBit : bare;
    }

    BigDecimal value(int code) {
        BigDecimal amount = amounts[bare(code)];
        return isMinus(code) ? amount.negate() : amount;
    }

    // ---- rounding

    int round(BigDecimal result, char rounding) {
        boolean isMinus = result.signum() < 0;
        BigDecimal amount = result.abs();
        boolean isAway = rounding == 'u' && !isMinus || rounding == 'd' && isMinus;
        boolean isNearest = rounding == 'n' || rounding == 'a';
        BigDecimal half = step.divide(TWO);
        boolean isOver = isNearest ? compare(amount, greatest.add(half)) >= 0
            : isAway ? compare(amount, greatest) > 0 : compare(amount, greatest.add(step)) >= 0;
        if (isOver) {
            flags |= 5;
            return signed(isMinus, isNearest || isAway ? infinite : infinite - 1);
        }
        int below = below(amount);
        if (compare(amount, amounts[below]) == 0) {
            return signed(isMinus, below);
        }
        flags |= compare(amount, least) < 0 ? 3 : 1;
        if (below == infinite - 1) {
            return signed(isMinus, below);
        }
        int side = compare(amount, amounts[below].add(amounts[below + 1]).divide(TWO));
        boolean isUp = isAway || rounding == 'n' && (side > 0 || side == 0 && below % 2 == 1)
            || rounding == 'a' && side >= 0;
        return signed(isMinus, isUp ? below + 1 : below);
    }

    int below(BigDecimal amount) {
        int low = 0;
        int high = infinite;
        while (high - low > 1) {
            int middle = (low + high) / 2;
            if (compare(amounts[middle], amount) <= 0) {
                low = middle;
            } else {
                high = middle;
            }
        }
        return low;
    }

    int convert(int code, Oracle to, char rounding) {
        if (isNone(code)) {
            return to.none;
        }
        if (isInfinite(code)) {
            return to.signed(isMinus(code), to.infinite);
        }
        return isZero(code) ? to.signed(isMinus(code), 0) : to.round(value(code), rounding);
    }

    int raise(int flag, int code) {
        flags |= flag;
        return code;
    }

    // ---- one argument

    int one(char function, int code, char rounding) {
        boolean isMinus = isMinus(code);
        if (isNone(code)) {
            return none;
        }
        boolean isBelow0 = isMinus && !isZero(code);
        if (function == 'q' && isZero(code) || function == 'b' && isZero(code) || function == 's' && isZero(code)) {
            return code;
        }
        if ("qrl".indexOf(function) >= 0 && isBelow0) {
            return raise(16, none);
        }
        if ("ir".indexOf(function) >= 0 && isZero(code)) {
            return raise(8, signed(isMinus, infinite));
        }
        if (function == 'l' && isZero(code)) {
            return raise(8, signed(true, infinite));
        }
        if (isInfinite(code)) {
            switch (function) {
                case 'q':
                case 'l':
                case 'b':
                    return code;
                case 'i':
                    return signed(isMinus, 0);
                case 'r':
                    return 0;
                case 'e':
                    return isMinus ? 0 : infinite;
                default:
                    return raise(16, none);
            }
        }
        BigDecimal result = single(function, value(code));
        if (compare(result, BigDecimal.ZERO) == 0) {
            return function == 's' ? signed(isMinus, 0) : 0;
        }
        return round(result, rounding);
    }

    /** The true result, without its special cases; null if there is none. */
    BigDecimal ordinary(char function, int code) {
        if (!isFinite(code)) {
            return null;
        }
        BigDecimal x = value(code);
        if ("qrl".indexOf(function) >= 0 && (x.signum() < 0 || x.signum() == 0 && function != 'q')
                || function == 'i' && x.signum() == 0) {
            return null;
        }
        return single(function, x);
    }

    static BigDecimal single(char function, BigDecimal x) {
        String key = function + x.stripTrailingZeros().toString();
        BigDecimal found = REMEMBERED.get(key);
        if (found == null) {
            found = workOut(function, x);
            REMEMBERED.put(key, found);
        }
        return found;
    }

    private static BigDecimal workOut(char function, BigDecimal x) {
        switch (function) {
            case 'q':
                return x.sqrt(EXACT);
            case 'b':
                return x.signum() == 0 ? x : thirdRoot(x.abs()).multiply(new BigDecimal(x.signum()));
            case 'i':
                return ONE.divide(x, EXACT);
            case 'r':
                return ONE.divide(x.sqrt(EXACT), EXACT);
            case 'e':
                return exp2(x);
            case 'l':
                return ln(x).divide(LN_2, EXACT);
            case 's':
                return sineOfPi(x);
            default:
                return sineOfPi(x.add(new BigDecimal("0.5")));
        }
    }

    private static BigDecimal thirdRoot(BigDecimal x) {
        BigDecimal y = new BigDecimal(Math.cbrt(x.doubleValue()));
        BigDecimal three = new BigDecimal(3);
        for (int i = 0; i < 8; i++) {
            y = y.multiply(TWO).add(x.divide(y.multiply(y), EXACT)).divide(three, EXACT);
        }
        return y;
    }

    static BigDecimal exp2(BigDecimal x) {
        BigInteger whole = x.setScale(0, RoundingMode.FLOOR).toBigInteger();
        BigDecimal part = x.subtract(new BigDecimal(whole));
        BigDecimal power = part.signum() == 0 ? ONE : exp(part.multiply(LN_2));
        // beyond that all is far above, or below, what any format has, but far above NEAR
        int exponent = Math.max(-150, Math.min(150, whole.intValueExact()));
        return power.multiply(power2(exponent));
    }

    static BigDecimal exp(BigDecimal x) {
        BigDecimal term = ONE;
        BigDecimal sum = ONE;
        for (int n = 1; n < 200 && term.abs().compareTo(new BigDecimal("1e-105")) > 0; n++) {
            term = term.multiply(x, EXACT).divide(new BigDecimal(n), EXACT);
            sum = sum.add(term);
        }
        return sum;
    }

    /** By the area's tangent: the argument is brought near 1 by powers of 2 first. */
    static BigDecimal ln(BigDecimal x) {
        int twos = 0;
        while (x.compareTo(new BigDecimal("1.5")) > 0) {
            x = x.divide(TWO);
            twos++;
        }
        while (x.compareTo(new BigDecimal("0.75")) < 0) {
            x = x.multiply(TWO);
            twos--;
        }
        return twiceAreaTangent(x.subtract(ONE).divide(x.add(ONE), EXACT)).add(LN_2.multiply(new BigDecimal(twos)));
    }

    private static BigDecimal twiceAreaTangent(BigDecimal z) {
        BigDecimal square = z.multiply(z, EXACT);
        BigDecimal power = z;
        BigDecimal sum = BigDecimal.ZERO;
        for (int n = 1; n < 400; n += 2) {
            sum = sum.add(power.divide(new BigDecimal(n), EXACT));
            power = power.multiply(square, EXACT);
        }
        return sum.multiply(TWO);
    }

    private static BigDecimal ln2() {
        return twiceAreaTangent(ONE.divide(new BigDecimal(3), EXACT));
    }

    /** 16 arctan(1/5) - 4 arctan(1/239). */
    private static BigDecimal pi() {
        return arctan(5).multiply(new BigDecimal(16)).subtract(arctan(239).multiply(new BigDecimal(4)));
    }

    private static BigDecimal arctan(int by) {
        BigDecimal power = ONE.divide(new BigDecimal(by), EXACT);
        BigDecimal square = new BigDecimal(by * by);
        BigDecimal sum = BigDecimal.ZERO;
        for (int n = 1; n < 300; n += 2) {
            BigDecimal term = power.divide(new BigDecimal(n), EXACT);
            sum = n % 4 == 1 ? sum.add(term) : sum.subtract(term);
            power = power.divide(square, EXACT);
        }
        return sum;
    }

    private static BigDecimal sineOfPi(BigDecimal x) {
        BigDecimal turn = x.subtract(x.divide(TWO).setScale(0, RoundingMode.FLOOR).multiply(TWO));
        if (turn.compareTo(ONE) > 0) {
            turn = turn.subtract(TWO);
        }
        BigDecimal angle = turn.multiply(PI, EXACT);
        BigDecimal square = angle.multiply(angle, EXACT).negate();
        BigDecimal term = angle;
        BigDecimal sum = angle;
        for (int n = 2; n < 200; n += 2) {
            term = term.multiply(square, EXACT).divide(new BigDecimal(n * (n + 1)), EXACT);
            sum = sum.add(term);
        }
        return sum;
    }

    // ---- two arguments

    int two(char function, int a, int b, char rounding) {
        if (function == 'p') {
            return powered(a, b, rounding);
        }
        if (function == 'h' && (isInfinite(a) || isInfinite(b))) {
            return infinite;
        }
        if (isNone(a) || isNone(b)) {
            return none;
        }
        boolean isUnlike = isMinus(a) != isMinus(b);
        switch (function) {
            case '+':
                return total(a, b, rounding);
            case '-':
                return total(a, signed(!isMinus(b), bare(b)), rounding);
            case '*':
                if (isInfinite(a) && isZero(b) || isZero(a) && isInfinite(b)) {
                    return raise(16, none);
                }
                if (isInfinite(a) || isInfinite(b)) {
                    return signed(isUnlike, infinite);
                }
                return isZero(a) || isZero(b) ? signed(isUnlike, 0) : round(value(a).multiply(value(b)), rounding);
            case '/':
                return quotient(a, b, isUnlike, rounding);
            default:
                BigDecimal squares = value(a).multiply(value(a)).add(value(b).multiply(value(b)));
                return squares.signum() == 0 ? 0 : round(squares.sqrt(EXACT), rounding);
        }
    }

    private int quotient(int a, int b, boolean isUnlike, char rounding) {
        if (isInfinite(a) && isInfinite(b) || isZero(a) && isZero(b)) {
            return raise(16, none);
        }
        if (isInfinite(a)) {
            return signed(isUnlike, infinite);
        }
        if (isInfinite(b) || isZero(a)) {
            return signed(isUnlike, 0);
        }
        if (isZero(b)) {
            return raise(8, signed(isUnlike, infinite));
        }
        return round(value(a).divide(value(b), EXACT), rounding);
    }

    private int total(int a, int b, char rounding) {
        if (isInfinite(a) || isInfinite(b)) {
            if (isInfinite(a) && isInfinite(b) && a != b) {
                return raise(16, none);
            }
            return isInfinite(a) ? a : b;
        }
        if (isZero(a) && isZero(b) && a == b) {
            return a;
        }
        return rounded(value(a).add(value(b)), rounding);
    }

    /** An exact sum, of 0 too. */
    int rounded(BigDecimal sum, char rounding) {
        return sum.signum() == 0 ? signed(rounding == 'd', 0) : round(sum, rounding);
    }

    int fused(int a, int b, int c, char rounding) {
        if (isNone(a) || isNone(b) || isNone(c)) {
            return none;
        }
        boolean isMinus = isMinus(a) != isMinus(b);
        if (isInfinite(a) || isInfinite(b)) {
            if (isZero(a) || isZero(b) || isInfinite(c) && isMinus(c) != isMinus) {
                return raise(16, none);
            }
            return signed(isMinus, infinite);
        }
        if (isInfinite(c)) {
            return c;
        }
        BigDecimal product = value(a).multiply(value(b));
        if (product.signum() == 0 && isZero(c) && isMinus == isMinus(c)) {
            return c;
        }
        return rounded(product.add(value(c)), rounding);
    }

    private int powered(int a, int b, char rounding) {
        int one = bias << fractions;
        if (isZero(b) || a == one) {
            return one;
        }
        if (isNone(a) || isNone(b)) {
            return none;
        }
        if (isInfinite(b)) {
            int side = isInfinite(a) ? 1 : value(a).abs().compareTo(ONE);
            return side == 0 ? one : side > 0 != isMinus(b) ? infinite : 0;
        }
        BigDecimal y = value(b);
        boolean isWhole = y.remainder(ONE).signum() == 0;
        boolean isOdd = isWhole && y.remainder(TWO).signum() != 0;
        boolean isMinus = isOdd && isMinus(a);
        if (isZero(a)) {
            return y.signum() < 0 ? raise(8, signed(isMinus, infinite)) : signed(isMinus, 0);
        }
        if (isInfinite(a)) {
            return signed(isMinus, y.signum() < 0 ? 0 : infinite);
        }
        if (isMinus(a) && !isWhole) {
            return raise(16, none);
        }
        BigDecimal result = powerOf(value(a).abs(), y);
        return round(isMinus ? result.negate() : result, rounding);
    }

    private static BigDecimal powerOf(BigDecimal x, BigDecimal y) {
        String key = x.stripTrailingZeros() + "^" + y.stripTrailingZeros();
        BigDecimal found = REMEMBERED.get(key);
        if (found == null) {
            found = exp2(y.multiply(single('l', x)).round(EXACT));
            REMEMBERED.put(key, found);
        }
        return found;
    }

    /** By 'n', without flags. */
    int near(char function, int a, int b) {
        int before = flags;
        int code = two(function, a, b, 'n');
        flags = before;
        return code;
    }

    // ---- hard cases and quick answers

    /** -1 if the code does not count. */
    int gap(char function, int code) {
        BigDecimal result = ordinary(function, code);
        if (result == null || compare(result, BigDecimal.ZERO) == 0) {
            return -1;
        }
        BigDecimal amount = result.abs();
        if (compare(amount, least) < 0 || compare(amount, greatest) > 0) {
            return -1;
        }
        int below = below(amount);
        if (compare(amount, amounts[below]) == 0) {
            return -1;
        }
        BigDecimal wide = amounts[below + 1].subtract(amounts[below]);
        BigDecimal off = amount.subtract(amounts[below].add(wide.divide(TWO))).abs();
        BigDecimal parts = off.divide(wide, EXACT).multiply(new BigDecimal(65536));
        return parts.add(NEAR).setScale(0, RoundingMode.FLOOR).intValueExact();
    }

    List<Integer> quickCodes(Oracle wide, char function) {
        List<Integer> found = new ArrayList<>();
        for (int code = 0; code < size(); code++) {
            if (isFinite(code)) {
                int answer = wide.one(function, convert(code, wide, 'n'), 'n');
                if (wide.isFinite(answer) && !wide.isZero(answer)) {
                    found.add(code);
                }
            }
        }
        return found;
    }

    int slow(Oracle wide, char function) {
        int count = 0;
        for (int code : quickCodes(wide, function)) {
            int answer = wide.one(function, convert(code, wide, 'n'), 'n');
            int bare = wide.bare(answer);
            if (bare == wide.infinite - 1) {
                count++;
                continue;
            }
            BigDecimal step = wide.amounts[bare + 1].subtract(wide.amounts[bare]);
            BigDecimal less = wide.value(answer).subtract(step);
            BigDecimal more = wide.value(answer).add(step);
            boolean isMinus = wide.isMinus(answer);
            int low = less.signum() == 0 ? signed(isMinus, 0) : round(less, 'n');
            int high = more.signum() == 0 ? signed(isMinus, 0) : round(more, 'n');
            count += low == high ? 0 : 1;
        }
        return count;
    }

    int wrong(Oracle wide, char function) {
        int count = 0;
        for (int code : quickCodes(wide, function)) {
            int answer = wide.one(function, convert(code, wide, 'n'), 'n');
            count += wide.convert(answer, this, 'n') == one(function, code, 'n') ? 0 : 1;
        }
        return count;
    }
}
