import java.math.BigDecimal;
import java.math.RoundingMode;
import java.util.ArrayList;
import java.util.HashMap;
import java.util.List;
import java.util.Map;
import java.util.NoSuchElementException;

/** The whole face by the document's words, with what a house holds: for runs of calls. */
final class Model {
    private static final BigDecimal UNITS = new BigDecimal(4096);
    private static final Map<String, Long> REMEMBERED = new HashMap<>();

    private final List<Oracle> formats = new ArrayList<>();
    private final List<Integer> row = new ArrayList<>();
    private final StringBuilder text = new StringBuilder();
    private final Map<String, Long> proofs = new HashMap<>();
    private int rowFormat = -1;
    private int flags;

    // ---- what the calls need

    private Oracle at(int format) {
        if (format < 0 || format >= formats.size()) {
            throw new IndexOutOfBoundsException();
        }
        return formats.get(format);
    }

    private Oracle at(int format, int... codes) {
        Oracle own = at(format);
        for (int code : codes) {
            if (code < 0 || code >= own.size()) {
                throw new IndexOutOfBoundsException();
            }
        }
        return own;
    }

    private static void need(boolean isSo, String signs, char... given) {
        for (char sign : given) {
            isSo &= signs.indexOf(sign) >= 0;
        }
        if (!isSo) {
            throw new IllegalArgumentException();
        }
    }

    private static void single(char function) {
        need(true, Oracle.SINGLES, function);
    }

    private static void rounding(char rounding) {
        need(true, Oracle.ROUNDINGS, rounding);
    }

    private static void finite(Oracle own, int... codes) {
        for (int code : codes) {
            if (!own.isFinite(code)) {
                throw new ArithmeticException();
            }
        }
    }

    private static void finiteNotZero(Oracle own, int... codes) {
        for (int code : codes) {
            if (!own.isFinite(code) || own.isZero(code)) {
                throw new ArithmeticException();
            }
        }
    }

    private static long units(BigDecimal value) {
        return value.multiply(UNITS).longValueExact();
    }

    private interface Work {
        long run();
    }

    /** What takes long is worked out once for each format's bits. */
    private static long once(String key, Work work) {
        Long found = REMEMBERED.get(key);
        if (found == null) {
            found = work.run();
            REMEMBERED.put(key, found);
        }
        return found;
    }

    private static String bits(Oracle own) {
        return own.exponents + "," + own.fractions + " ";
    }

    private int raised(Oracle to, Work work) {
        to.flags = 0;
        int code = (int) work.run();
        flags |= to.flags;
        return code;
    }

    // ---- formats and flags

    int format(int exponents, int fractions) {
        need(exponents >= 2 && exponents <= 4 && fractions >= 1 && fractions <= 6, "");
        if (formats.size() == 6) {
            throw new IllegalStateException();
        }
        formats.add(new Oracle(exponents, fractions));
        return formats.size() - 1;
    }

    int codes(int format) {
        return at(format).size();
    }

    int value(int format, int code) {
        Oracle own = at(format, code);
        finite(own, code);
        return (int) units(own.value(code));
    }

    char kind(int format, int code) {
        Oracle own = at(format, code);
        if (!own.isFinite(code)) {
            return own.isInfinite(code) ? 'i' : 'x';
        }
        BigDecimal amount = own.value(code).abs();
        return amount.signum() == 0 ? '0' : amount.compareTo(own.least) < 0 ? 's' : 'n';
    }

    int above(int format, int code) {
        Oracle own = at(format, code);
        if (own.isNone(code) || code == own.infinite) {
            throw new NoSuchElementException();
        }
        if (own.isZero(code)) {
            return 1;
        }
        return own.isMinus(code) ? code - 1 : code + 1;
    }

    int convert(int format, int code, int to, char rounding) {
        Oracle own = at(format, code);
        Oracle other = at(to);
        rounding(rounding);
        return raised(other, () -> own.convert(code, other, rounding));
    }

    int flags() {
        return flags;
    }

    int clearFlags() {
        int before = flags;
        flags = 0;
        return before;
    }

    // ---- functions

    int one(int format, char function, int code, char rounding) {
        Oracle own = at(format, code);
        single(function);
        rounding(rounding);
        return raised(own, () -> own.one(function, code, rounding));
    }

    int two(int format, char function, int code, int other, char rounding) {
        Oracle own = at(format, code, other);
        need(true, Oracle.PAIRS, function);
        rounding(rounding);
        return raised(own, () -> own.two(function, code, other, rounding));
    }

    int fused(int format, int a, int b, int c, char rounding) {
        Oracle own = at(format, a, b, c);
        rounding(rounding);
        return raised(own, () -> own.fused(a, b, c, rounding));
    }

    int oneAnew(int format, char function, int code, char rounding) {
        Oracle own = at(format, code);
        single(function);
        rounding(rounding);
        return own.one(function, code, rounding);
    }

    char compare(int format, int code, int other) {
        Oracle own = at(format, code, other);
        if (own.isNone(code) || own.isNone(other)) {
            return 'u';
        }
        int side = worth(own, code).compareTo(worth(own, other));
        return side < 0 ? 'l' : side > 0 ? 'g' : 'e';
    }

    private static BigDecimal worth(Oracle own, int code) {
        BigDecimal amount = own.isInfinite(code) ? new BigDecimal(1000000) : own.amounts[own.bare(code)];
        return own.isMinus(code) ? amount.negate() : amount;
    }

    // ---- in two parts, rows, digits

    int rest(int format, char function, int code, int other) {
        Oracle own = at(format, code, other);
        need(true, "+*", function);
        finite(own, code, other);
        int near = own.near(function, code, other);
        finite(own, near);
        BigDecimal a = own.value(code);
        BigDecimal b = own.value(other);
        BigDecimal left = (function == '+' ? a.add(b) : a.multiply(b)).subtract(own.value(near));
        for (int rest = 0; rest < own.size(); rest++) {
            if (own.isFinite(rest) && own.value(rest).compareTo(left) == 0) {
                return rest;
            }
        }
        throw new NoSuchElementException();
    }

    int add(int format, int code) {
        at(format, code);
        if (format == rowFormat && row.size() == 20) {
            throw new IllegalStateException();
        }
        if (format != rowFormat) {
            row.clear();
        }
        rowFormat = format;
        row.add(code);
        return row.size();
    }

    int empty() {
        int before = row.size();
        row.clear();
        return before;
    }

    int sum(char how, char rounding) {
        need(true, "pced", how);
        rounding(rounding);
        if (rowFormat < 0) {
            throw new NoSuchElementException();
        }
        Oracle own = formats.get(rowFormat);
        for (int code : row) {
            finite(own, code);
        }
        if (how == 'p' || how == 'c') {
            return how == 'p' ? plainly(own) : carefully(own);
        }
        BigDecimal sum = BigDecimal.ZERO;
        for (int i = 0; i < row.size(); i++) {
            if (how == 'e') {
                sum = sum.add(own.value(row.get(i)));
            } else if (i % 2 == 1) {
                sum = sum.add(own.value(row.get(i - 1)).multiply(own.value(row.get(i))));
            }
        }
        return own.rounded(sum, rounding);
    }

    private int plainly(Oracle own) {
        int sum = 0;
        for (int code : row) {
            sum = own.near('+', sum, code);
        }
        return sum;
    }

    private int carefully(Oracle own) {
        int sum = 0;
        int rest = 0;
        for (int a : row) {
            int t = own.near('+', sum, a);
            if (!own.isFinite(t)) {
                return t;
            }
            boolean isAtLeast = own.value(sum).abs().compareTo(own.value(a).abs()) >= 0;
            int lost = isAtLeast ? own.near('+', own.near('-', sum, t), a) : own.near('+', own.near('-', a, t), sum);
            rest = own.near('+', rest, lost);
            sum = t;
        }
        return own.near('+', sum, rest);
    }

    int digit(int format, int code, int other, int index) {
        Oracle own = at(format, code, other);
        if (index < 0 || index > 29) {
            throw new IndexOutOfBoundsException();
        }
        finiteNotZero(own, code, other);
        BigDecimal half = new BigDecimal("0.5");
        BigDecimal w = below(own.value(code).abs(), half);
        BigDecimal v = below(own.value(other).abs(), BigDecimal.ONE);
        int digit = 0;
        for (int i = 0; i <= index; i++) {
            BigDecimal twice = w.multiply(Oracle.TWO);
            digit = twice.compareTo(half) >= 0 ? 1 : twice.compareTo(half.negate()) < 0 ? -1 : 0;
            w = twice.subtract(v.multiply(new BigDecimal(digit)));
        }
        return digit;
    }

    private static BigDecimal below(BigDecimal x, BigDecimal limit) {
        while (x.compareTo(limit) >= 0) {
            x = x.divide(Oracle.TWO);
        }
        while (x.multiply(Oracle.TWO).compareTo(limit) < 0) {
            x = x.multiply(Oracle.TWO);
        }
        return x;
    }

    // ---- reducing, hard cases, quick answers

    private static BigDecimal quarters(BigDecimal x) {
        return x.divide(Oracle.PI.divide(Oracle.TWO), Oracle.EXACT).setScale(0, RoundingMode.HALF_EVEN);
    }

    private static BigDecimal restOf(BigDecimal x) {
        return x.subtract(quarters(x).multiply(Oracle.PI.divide(Oracle.TWO)));
    }

    int quarter(int format, int code) {
        Oracle own = at(format, code);
        finite(own, code);
        return quarters(own.value(code)).intValueExact();
    }

    int reduced(int format, int code) {
        Oracle own = at(format, code);
        finite(own, code);
        return own.isZero(code) ? code : own.round(restOf(own.value(code)), 'n');
    }

    int cancels(int format) {
        Oracle own = at(format);
        int found = -1;
        for (int code = 1; code < own.infinite; code++) {
            BigDecimal x = own.value(code);
            if (quarters(x).signum() != 0
                    && (found < 0 || restOf(x).abs().compareTo(restOf(own.value(found)).abs()) < 0)) {
                found = code;
            }
        }
        return some(found);
    }

    private static int some(int found) {
        if (found < 0) {
            throw new NoSuchElementException();
        }
        return found;
    }

    private static int gap(Oracle own, char function, int code) {
        return (int) once("gap " + bits(own) + function + code, () -> own.gap(function, code));
    }

    int hardest(int format, char function) {
        Oracle own = at(format);
        single(function);
        return some((int) once("hardest " + bits(own) + function, () -> {
            int found = -1;
            for (int code = 0; code < own.size(); code++) {
                int gap = gap(own, function, code);
                if (gap >= 0 && (found < 0 || gap < gap(own, function, found))) {
                    found = code;
                }
            }
            return found;
        }));
    }

    int distance(int format, char function, int code) {
        Oracle own = at(format, code);
        single(function);
        return some(gap(own, function, code));
    }

    private Oracle wider(int format, int wide, char function) {
        Oracle own = at(format);
        Oracle other = at(wide);
        single(function);
        need(own.exponents == other.exponents && other.fractions > own.fractions, "");
        return other;
    }

    int slow(int format, int wide, char function) {
        Oracle other = wider(format, wide, function);
        Oracle own = at(format);
        return (int) once("slow " + bits(own) + bits(other) + function, () -> own.slow(other, function));
    }

    int wrong(int format, int wide, char function) {
        Oracle other = wider(format, wide, function);
        Oracle own = at(format);
        return (int) once("wrong " + bits(own) + bits(other) + function, () -> own.wrong(other, function));
    }

    // ---- tables, lines, polynomials

    int place(int format, char function, int code, int around) {
        Oracle own = at(format, code);
        single(function);
        need(around >= 0 && around <= 16, "");
        int found = -1;
        for (int tried = code - around; tried <= code + around; tried++) {
            boolean isOne = tried >= 0 && tried < own.size() && own.isFinite(tried) && own.value(tried).signum() >= 0;
            if (isOne && gap(own, function, tried) >= 0
                    && (found < 0 || gap(own, function, tried) > gap(own, function, found))) {
                found = tried;
            }
        }
        return some(found);
    }

    int line(int format, char function, int from, int to) {
        Oracle own = at(format, from, to);
        single(function);
        need(to >= from && to - from <= 23, "");
        long[] y = new long[to - from + 1];
        for (int i = 0; i < y.length; i++) {
            int answer = own.one(function, from + i, 'n');
            finite(own, answer);
            y[i] = units(own.value(answer));
        }
        // a best slope is that of two of the points; half of how far all spread along it is its error
        long best = y.length == 1 ? 0 : Long.MAX_VALUE;
        for (int j = 0; j < y.length; j++) {
            for (int k = j + 1; k < y.length; k++) {
                long highest = Long.MIN_VALUE;
                long lowest = Long.MAX_VALUE;
                for (int i = 0; i < y.length; i++) {
                    long off = y[i] * (k - j) - i * (y[k] - y[j]);
                    highest = Math.max(highest, off);
                    lowest = Math.min(lowest, off);
                }
                best = Math.min(best, 4096 * (highest - lowest) / (2 * (k - j)));
            }
        }
        return Math.toIntExact(best);
    }

    int polynomial(int format, int c, int d, int f, int x, boolean isFirst) {
        Oracle own = at(format, c, d, f, x);
        if (isFirst) {
            return own.near('+', own.near('*', own.near('+', own.near('*', f, x), d), x), c);
        }
        return own.near('+', own.near('+', c, own.near('*', d, x)), own.near('*', f, own.near('*', x, x)));
    }

    long error(int format, int c, int d, int f, int x, boolean isFirst) {
        Oracle own = at(format, c, d, f, x);
        finite(own, c, d, f, x);
        int found = polynomial(format, c, d, f, x, isFirst);
        finite(own, found);
        BigDecimal at = own.value(x);
        BigDecimal due = own.value(f).multiply(at).add(own.value(d)).multiply(at).add(own.value(c));
        return due.subtract(own.value(found)).abs().multiply(Oracle.power2(36)).longValueExact();
    }

    // ---- texts and certificates

    int type(char sign) {
        need(true, "-.0123456789", sign);
        if (text.length() == 10) {
            throw new IllegalStateException();
        }
        text.append(sign);
        return text.length();
    }

    int erase() {
        int before = text.length();
        text.setLength(0);
        return before;
    }

    int read(int format, char rounding) {
        Oracle own = at(format);
        rounding(rounding);
        String all = text.toString();
        if (!all.matches("-?([0-9]+\\.?[0-9]*|\\.[0-9]+)")) {
            throw new NoSuchElementException();
        }
        BigDecimal number = new BigDecimal(all.endsWith(".") ? all + "0" : all);
        if (number.signum() == 0) {
            return own.signed(all.startsWith("-"), 0);
        }
        return raised(own, () -> own.round(number, rounding));
    }

    /** In as many digits as tell it from its neighbours; the first digits are tried at every power. */
    private static BigDecimal shortest(Oracle own, int bare) {
        BigDecimal value = own.amounts[bare];
        for (int length = 1; length <= 6; length++) {
            BigDecimal best = null;
            for (int scale = -3; scale <= 10; scale++) {
                BigDecimal floor = value.setScale(scale, RoundingMode.FLOOR);
                BigDecimal one = BigDecimal.ONE.scaleByPowerOfTen(-scale);
                for (BigDecimal tried : new BigDecimal[] {floor, floor.add(one)}) {
                    boolean counts = tried.signum() > 0 && tried.unscaledValue().toString().length() == length
                        && own.round(tried, 'n') == bare;
                    if (counts && (best == null || isBetter(tried, best, value))) {
                        best = tried;
                    }
                }
            }
            if (best != null) {
                return best.stripTrailingZeros();
            }
        }
        throw new IllegalStateException();
    }

    private static boolean isBetter(BigDecimal tried, BigDecimal best, BigDecimal value) {
        int side = tried.subtract(value).abs().compareTo(best.subtract(value).abs());
        return side < 0 || side == 0 && tried.compareTo(best) < 0;
    }

    int digits(int format, int code) {
        Oracle own = at(format, code);
        finiteNotZero(own, code);
        int digits = shortest(own, own.bare(code)).unscaledValue().intValueExact();
        return own.isMinus(code) ? -digits : digits;
    }

    int power(int format, int code) {
        Oracle own = at(format, code);
        finiteNotZero(own, code);
        return -shortest(own, own.bare(code)).scale();
    }

    private static String key(int format, char function, char rounding) {
        return format + " " + function + rounding;
    }

    long certify(int format, char function, char rounding) {
        Oracle own = at(format);
        single(function);
        rounding(rounding);
        need(own.size() <= 512, "");
        String key = key(format, function, rounding);
        if (!proofs.containsKey(key)) {
            if (proofs.size() == 12) {
                throw new IllegalStateException();
            }
            proofs.put(key, once("proof " + bits(own) + function + rounding, () -> {
                long proof = 17;
                for (int code = 0; code < own.size(); code++) {
                    proof = 31 * proof + own.one(function, code, rounding);
                }
                return proof;
            }));
        }
        return proofs.get(key);
    }

    boolean check(int format, char function, char rounding) {
        at(format);
        single(function);
        rounding(rounding);
        if (!proofs.containsKey(key(format, function, rounding))) {
            throw new NoSuchElementException();
        }
        return true;
    }

    int certificates() {
        return proofs.size();
    }

    boolean isMonotone(int format, char function, char rounding) {
        Oracle own = at(format);
        single(function);
        rounding(rounding);
        return once("way " + bits(own) + function + rounding, () -> {
            boolean isRising = true;
            boolean isFalling = true;
            BigDecimal last = null;
            for (int i = 0; i < 2 * own.infinite; i++) {
                int code = i < own.infinite ? own.signBit + own.infinite - 1 - i : i - own.infinite;
                int answer = own.one(function, code, rounding);
                if (own.isFinite(answer)) {
                    BigDecimal next = own.value(answer);
                    isRising &= last == null || next.compareTo(last) >= 0;
                    isFalling &= last == null || next.compareTo(last) <= 0;
                    last = next;
                }
            }
            return isRising || isFalling ? 1 : 0;
        }) == 1;
    }

    int floatBits(int format, int code) {
        Oracle own = at(format, code);
        finite(own, code);
        float amount = own.amounts[own.bare(code)].floatValue();
        return Float.floatToIntBits(own.isMinus(code) ? -amount : amount);
    }

    float finiteShare(int format) {
        Oracle own = at(format);
        return (float) (2 * own.infinite) / (float) own.size();
    }

    double meanValue(int format) {
        Oracle own = at(format);
        long sum = 0;
        for (BigDecimal amount : own.amounts) {
            sum += units(amount);
        }
        return (double) sum / (double) own.infinite / 4096.0;
    }

    boolean isTrue() {
        return true;
    }
}
