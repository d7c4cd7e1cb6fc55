import java.util.NoSuchElementException;

/**
 * Functions worked out to the last bit, in small floating formats that are told.
 *
 * Every value of every format is a whole number of units of 2 to the power of -12, so values are ints and all that
 * is compared is compared in longs. A true result is held as a whole number of small units and whether there is
 * more than these: that is enough to round it, for whatever it could be compared with is a whole number of them.
 */
public final class Ulphouse {
    private static final int MOST_FORMATS = 6;
    private static final int MOST_TO_CERTIFY = 512;
    private static final int MOST_DIGITS_OF_QUOTIENT = 30;
    private static final int MOST_AROUND = 16;

    private final Format[] formats;
    private int told;
    private int raised;
    private final Truth truth;
    private final Single single;
    private final Anew anew;
    private final Row row;
    private final Hard hard;
    private final Text text;
    private final Certificates proofs;

    public Ulphouse() {
        formats = new Format[MOST_FORMATS];
        truth = new Truth();
        single = new Single();
        anew = new Anew();
        row = new Row();
        hard = new Hard();
        text = new Text();
        proofs = new Certificates();
    }

    // ---- formats and flags

    public int format(int exponents, int fractions) throws IllegalArgumentException, IllegalStateException {
        if (exponents < 2 || exponents > 4 || fractions < 1 || fractions > 6) {
            throw new IllegalArgumentException("a number is out of range");
        }
        if (told >= MOST_FORMATS) {
            throw new IllegalStateException("there are 6 formats");
        }
        formats[told] = new Format(exponents, fractions);
        told++;
        return told - 1;
    }

    public int codes(int format) throws IndexOutOfBoundsException {
        return formatAt(format).size();
    }

    public int value(int format, int code) throws IndexOutOfBoundsException, ArithmeticException {
        Format own = formatAt(format);
        needCode(own, code);
        needFinite(own, code);
        return own.signed(code);
    }

    public char kind(int format, int code) throws IndexOutOfBoundsException {
        Format own = formatAt(format);
        needCode(own, code);
        if (own.isNone(code)) {
            return 'x';
        }
        if (own.isInfinite(code)) {
            return 'i';
        }
        if (own.isZero(code)) {
            return '0';
        }
        return own.amount(code) < own.leastNormal() ? 's' : 'n';
    }

    public int above(int format, int code) throws IndexOutOfBoundsException, NoSuchElementException {
        Format own = formatAt(format);
        needCode(own, code);
        if (own.isNone(code) || code == own.infinite) {
            throw new NoSuchElementException("nothing is above");
        }
        if (own.isZero(code)) {
            return 1;
        }
        return own.isMinus(code) ? code - 1 : code + 1;
    }

    public int convert(int format, int code, int to, char rounding)
            throws IndexOutOfBoundsException, IllegalArgumentException {
        Format own = formatAt(format);
        Format other = formatAt(to);
        needCode(own, code);
        needRounding(rounding);
        truth.ofCode(own, code);
        return answered(other, rounding);
    }

    public int flags() {
        return raised;
    }

    public int clearFlags() {
        int before = raised;
        raised = 0;
        return before;
    }

    // ---- functions

    public int one(int format, char function, int code, char rounding)
            throws IndexOutOfBoundsException, IllegalArgumentException {
        Format own = formatAt(format);
        needCode(own, code);
        needFunction(function);
        needRounding(rounding);
        single.ask(own, function, code, truth);
        return answered(own, rounding);
    }

    public int two(int format, char function, int code, int other, char rounding)
            throws IndexOutOfBoundsException, IllegalArgumentException {
        Format own = formatAt(format);
        needCode(own, code);
        needCode(own, other);
        if (!Pair.isFunction(function)) {
            throw new IllegalArgumentException("no such function");
        }
        needRounding(rounding);
        Pair.ask(own, function, code, other, truth);
        return answered(own, rounding);
    }

    public int fused(int format, int a, int b, int c, char rounding)
            throws IndexOutOfBoundsException, IllegalArgumentException {
        Format own = formatAt(format);
        needCode(own, a);
        needCode(own, b);
        needCode(own, c);
        needRounding(rounding);
        Pair.productAndSum(own, a, b, c, truth);
        return answered(own, rounding);
    }

    public int oneAnew(int format, char function, int code, char rounding)
            throws IndexOutOfBoundsException, IllegalArgumentException {
        Format own = formatAt(format);
        needCode(own, code);
        needFunction(function);
        needRounding(rounding);
        return anew.answer(own, function, code, rounding);
    }

    public char compare(int format, int code, int other) throws IndexOutOfBoundsException {
        Format own = formatAt(format);
        needCode(own, code);
        needCode(own, other);
        if (own.isNone(code) || own.isNone(other)) {
            return 'u';
        }
        int first = own.rank(code);
        int second = own.rank(other);
        if (first == second) {
            return 'e';
        }
        return first < second ? 'l' : 'g';
    }

    // ---- in two parts, rows, digits

    public int rest(int format, char function, int code, int other)
            throws IndexOutOfBoundsException, IllegalArgumentException, ArithmeticException, NoSuchElementException {
        Format own = formatAt(format);
        needCode(own, code);
        needCode(own, other);
        if (function != '+' && function != '*') {
            throw new IllegalArgumentException("no such function");
        }
        needFinite(own, code);
        needFinite(own, other);
        int rounded = Pair.nearest(own, function, code, other, truth);
        needFinite(own, rounded);
        int lacking = Pair.lacking(own, function, code, other, rounded, truth);
        if (lacking < 0) {
            throw new NoSuchElementException("the rest is no value");
        }
        return lacking;
    }

    public int add(int format, int code) throws IndexOutOfBoundsException, IllegalStateException {
        Format own = formatAt(format);
        needCode(own, code);
        if (!row.takes(format)) {
            throw new IllegalStateException("the row is full");
        }
        return row.put(format, code);
    }

    public int empty() {
        return row.clear();
    }

    public int sum(char how, char rounding)
            throws IllegalArgumentException, NoSuchElementException, ArithmeticException {
        if (how != 'p' && how != 'c' && how != 'e' && how != 'd') {
            throw new IllegalArgumentException("no such way");
        }
        needRounding(rounding);
        if (!hasFormat(row.format)) {
            throw new NoSuchElementException("no format was told for the row");
        }
        Format own = formats[row.format];
        if (!row.isFinite(own)) {
            throw new ArithmeticException("a code of the row is not finite");
        }
        switch (how) {
            case 'p':
                return row.plainly(own, truth);
            case 'c':
                return row.carefully(own, truth);
            case 'e':
                truth.total(row.exactly(own), 12);
                return truth.rounded(own, rounding);
            default:
                truth.total(row.dot(own), 24);
                return truth.rounded(own, rounding);
        }
    }

    public int digit(int format, int code, int other, int index)
            throws IndexOutOfBoundsException, ArithmeticException {
        Format own = formatAt(format);
        needCode(own, code);
        needCode(own, other);
        if (index < 0 || index >= MOST_DIGITS_OF_QUOTIENT) {
            throw new IndexOutOfBoundsException("no such index");
        }
        needFiniteNotZero(own, code);
        needFiniteNotZero(own, other);
        return Fixed.digitOfQuotient(own.amount(code), own.amount(other), index);
    }

    // ---- reducing, hard cases, quick answers

    public int quarter(int format, int code) throws IndexOutOfBoundsException, ArithmeticException {
        Format own = formatAt(format);
        needCode(own, code);
        needFinite(own, code);
        int quarters = Reduce.quarters(own.amount(code));
        return own.isMinus(code) ? -quarters : quarters;
    }

    public int reduced(int format, int code) throws IndexOutOfBoundsException, ArithmeticException {
        Format own = formatAt(format);
        needCode(own, code);
        needFinite(own, code);
        Reduce.ask(own, code, truth);
        return truth.rounded(own, 'n');
    }

    public int cancels(int format) throws IndexOutOfBoundsException, NoSuchElementException {
        Format own = formatAt(format);
        int most = Reduce.leastRest(own);
        if (most < 0) {
            throw new NoSuchElementException("no quarter is other than 0");
        }
        return most;
    }

    public int hardest(int format, char function)
            throws IndexOutOfBoundsException, IllegalArgumentException, NoSuchElementException {
        Format own = formatAt(format);
        needFunction(function);
        int found = hard.hardestCode(own, function, single);
        if (found < 0) {
            throw new NoSuchElementException("no code counts");
        }
        return found;
    }

    public int distance(int format, char function, int code)
            throws IndexOutOfBoundsException, IllegalArgumentException, NoSuchElementException {
        Format own = formatAt(format);
        needCode(own, code);
        needFunction(function);
        single.ask(own, function, code, truth);
        int gap = truth.gap(own);
        if (gap < 0) {
            throw new NoSuchElementException("the code does not count");
        }
        return gap;
    }

    public int slow(int format, int wide, char function) throws IndexOutOfBoundsException, IllegalArgumentException {
        Format own = formatAt(format);
        Format other = formatAt(wide);
        needFunction(function);
        needWider(own, other);
        return hard.countQuick(own, other, function, false, single);
    }

    public int wrong(int format, int wide, char function) throws IndexOutOfBoundsException, IllegalArgumentException {
        Format own = formatAt(format);
        Format other = formatAt(wide);
        needFunction(function);
        needWider(own, other);
        return hard.countQuick(own, other, function, true, single);
    }

    // ---- tables, lines, polynomials

    public int place(int format, char function, int code, int around)
            throws IndexOutOfBoundsException, IllegalArgumentException, NoSuchElementException {
        Format own = formatAt(format);
        needCode(own, code);
        needFunction(function);
        if (around < 0 || around > MOST_AROUND) {
            throw new IllegalArgumentException("the number is out of range");
        }
        int found = hard.tablePlace(own, function, code, around, single);
        if (found < 0) {
            throw new NoSuchElementException("no code counts");
        }
        return found;
    }

    public int line(int format, char function, int from, int to)
            throws IndexOutOfBoundsException, IllegalArgumentException, ArithmeticException {
        Format own = formatAt(format);
        needCode(own, from);
        needCode(own, to);
        needFunction(function);
        if (to < from || to - from >= Hard.MOST_IN_LINE) {
            throw new IllegalArgumentException("the last code is out of range");
        }
        if (!hard.hasLine(own, function, from, to, single)) {
            throw new ArithmeticException("an answer is not finite");
        }
        return hard.lineError(to - from + 1);
    }

    public int polynomial(int format, int c, int d, int f, int x, boolean isFirst) throws IndexOutOfBoundsException {
        Format own = formatAt(format);
        needCode(own, c);
        needCode(own, d);
        needCode(own, f);
        needCode(own, x);
        return Pair.byScheme(own, c, d, f, x, isFirst, truth);
    }

    public long error(int format, int c, int d, int f, int x, boolean isFirst)
            throws IndexOutOfBoundsException, ArithmeticException {
        Format own = formatAt(format);
        needCode(own, c);
        needCode(own, d);
        needCode(own, f);
        needCode(own, x);
        needFinite(own, c);
        needFinite(own, d);
        needFinite(own, f);
        needFinite(own, x);
        int found = Pair.byScheme(own, c, d, f, x, isFirst, truth);
        needFinite(own, found);
        return Math.abs(((long) own.signed(found) << 24) - Pair.trueCubes(own, c, d, f, x));
    }

    // ---- texts and certificates

    public int type(char sign) throws IllegalArgumentException, IllegalStateException {
        if (sign != '-' && sign != '.' && (sign < '0' || sign > '9')) {
            throw new IllegalArgumentException("no such sign");
        }
        if (text.isFull()) {
            throw new IllegalStateException("the text has 10 signs");
        }
        return text.put(sign);
    }

    public int erase() {
        return text.clear();
    }

    public int read(int format, char rounding)
            throws IndexOutOfBoundsException, IllegalArgumentException, NoSuchElementException {
        Format own = formatAt(format);
        needRounding(rounding);
        if (!text.isNumber(truth)) {
            throw new NoSuchElementException("the text is no number");
        }
        return answered(own, rounding);
    }

    public int digits(int format, int code) throws IndexOutOfBoundsException, ArithmeticException {
        Format own = formatAt(format);
        needCode(own, code);
        needFiniteNotZero(own, code);
        text.shorten(own, own.bare(code));
        return own.isMinus(code) ? -text.shortest : text.shortest;
    }

    public int power(int format, int code) throws IndexOutOfBoundsException, ArithmeticException {
        Format own = formatAt(format);
        needCode(own, code);
        needFiniteNotZero(own, code);
        text.shorten(own, own.bare(code));
        return text.tens;
    }

    public long certify(int format, char function, char rounding)
            throws IndexOutOfBoundsException, IllegalArgumentException, IllegalStateException {
        Format own = formatAt(format);
        needFunction(function);
        needRounding(rounding);
        if (own.size() > MOST_TO_CERTIFY) {
            throw new IllegalArgumentException("the format has too many codes");
        }
        int at = proofs.find(format, function, rounding);
        if (at < 0 && proofs.isFull()) {
            throw new IllegalStateException("12 certificates are kept");
        }
        if (at < 0) {
            long proof = Certificates.work(own, function, rounding, single, truth);
            at = proofs.put(format, function, rounding, proof);
        }
        return proofs.proof[at];
    }

    public boolean check(int format, char function, char rounding)
            throws IndexOutOfBoundsException, IllegalArgumentException, NoSuchElementException {
        Format own = formatAt(format);
        needFunction(function);
        needRounding(rounding);
        int at = proofs.find(format, function, rounding);
        if (at < 0) {
            throw new NoSuchElementException("no such certificate is kept");
        }
        return proofs.isSound(own, at, anew);
    }

    public int certificates() {
        return proofs.count;
    }

    public boolean isMonotone(int format, char function, char rounding)
            throws IndexOutOfBoundsException, IllegalArgumentException {
        Format own = formatAt(format);
        needFunction(function);
        needRounding(rounding);
        return hard.isOneWay(own, function, rounding, single);
    }

    public int floatBits(int format, int code) throws IndexOutOfBoundsException, ArithmeticException {
        Format own = formatAt(format);
        needCode(own, code);
        needFinite(own, code);
        return Fixed.floatBitsOf(own.isMinus(code), own.amount(code));
    }

    public float finiteShare(int format) throws IndexOutOfBoundsException {
        Format own = formatAt(format);
        return (float) (2 * own.infinite) / (float) own.size();
    }

    public double meanValue(int format) throws IndexOutOfBoundsException {
        Format own = formatAt(format);
        long total = 0;
        for (int code = 0; code < own.infinite; code++) {
            total += own.amount(code);
        }
        return (double) total / (double) own.infinite / 4096.0;
    }

    public boolean isTrue() {
        if (!single.isSound(anew, truth)) {
            return false;
        }
        for (int at = 0; at < proofs.count; at++) {
            int format = proofs.formatOf(at);
            if (!hasFormat(format) || !proofs.isSound(formats[format], at, anew)) {
                return false;
            }
        }
        return true;
    }

    // ---- what the calls need

    private boolean hasFormat(int format) {
        return format >= 0 && format < told;
    }

    private Format formatAt(int format) throws IndexOutOfBoundsException {
        if (!hasFormat(format)) {
            throw new IndexOutOfBoundsException("no such format");
        }
        return formats[format];
    }

    private static void needCode(Format format, int code) throws IndexOutOfBoundsException {
        if (code < 0 || code >= format.size()) {
            throw new IndexOutOfBoundsException("no such code");
        }
    }

    private static void needFinite(Format format, int code) throws ArithmeticException {
        if (!format.isFinite(code)) {
            throw new ArithmeticException("not finite");
        }
    }

    private static void needFiniteNotZero(Format format, int code) throws ArithmeticException {
        if (!format.isFinite(code) || format.isZero(code)) {
            throw new ArithmeticException("not finite, or a zero");
        }
    }

    private static void needFunction(char function) throws IllegalArgumentException {
        if (Single.number(function) < 0) {
            throw new IllegalArgumentException("no such function");
        }
    }

    private static void needRounding(char rounding) throws IllegalArgumentException {
        if (rounding != 'n' && rounding != 'a' && rounding != 'z' && rounding != 'u' && rounding != 'd') {
            throw new IllegalArgumentException("no such rounding");
        }
    }

    private static void needWider(Format format, Format wide) throws IllegalArgumentException {
        if (wide.bias != format.bias || wide.fractions <= format.fractions) {
            throw new IllegalArgumentException("the other format is not wider");
        }
    }

    private int answered(Format format, char rounding) {
        int code = truth.rounded(format, rounding);
        raised |= truth.raised;
        return code;
    }

    /** A format; its amounts are in units of 2 to the power of -12. A bare code is one without its sign. */
    private static final class Format {
        final int fractions;
        final int bias;
        final int minus;
        final int infinite;
        final int none;

        Format(int exponents, int fractions) {
            this.fractions = fractions;
            bias = (1 << (exponents - 1)) - 1;
            minus = 1 << (exponents + fractions);
            infinite = minus - (1 << fractions);
            none = infinite + (1 << (fractions - 1));
        }

        int size() {
            return 2 * minus;
        }

        int bare(int code) {
            return code & (minus - 1);
        }

        int withSign(boolean isMinus, int bare) {
            return isMinus ? bare + minus : bare;
        }

        boolean isMinus(int code) {
            return code >= minus;
        }

        boolean isNone(int code) {
            return bare(code) > infinite;
        }

        boolean isInfinite(int code) {
            return bare(code) == infinite;
        }

        boolean isFinite(int code) {
            return bare(code) < infinite;
        }

        boolean isZero(int code) {
            return bare(code) == 0;
        }

        /** For infinite, the amount that would follow the greatest finite one: limits are told by it. */
        int amount(int code) {
            int exponent = (code & (minus - 1)) >> fractions;
            int part = code & ((1 << fractions) - 1);
            int shift = 13 - bias - fractions;
            return exponent == 0 ? part << shift : ((1 << fractions) + part) << (shift + exponent - 1);
        }

        int signed(int code) {
            return isMinus(code) ? -amount(code) : amount(code);
        }

        int leastNormal() {
            return 1 << (13 - bias);
        }

        /** Rises with the value; both zeros are alike. */
        int rank(int code) {
            return isMinus(code) ? -bare(code) : code;
        }

        int overflowed(boolean isMinus, char rounding) {
            boolean isInfinite = rounding == 'n' || rounding == 'a' || rounding == (isMinus ? 'd' : 'u');
            return withSign(isMinus, isInfinite ? infinite : infinite - 1);
        }
    }

    /**
     * A true result: whole units of 2 to the power of -scale, and whether it is more than these by less than one.
     * Whoever tells that there is more takes units below all that formats can tell apart.
     */
    private static final class Truth {
        static final int SCALE = 28;
        static final int NOT_EXACT = 1;
        static final int UNDERFLOW = 2;
        static final int OVERFLOW = 4;
        static final int DIVIDED = 8;
        static final int INVALID = 16;

        private static final int NUMBER = 0;
        private static final int ZERO = 1;
        private static final int CANCELLED = 2;
        private static final int INFINITE = 3;
        private static final int NONE = 4;

        private int state;
        boolean isMinus;
        long units;
        int scale;
        boolean isMore;
        int raised;

        private void become(int state, boolean isMinus, int raised) {
            this.state = state;
            this.isMinus = isMinus;
            this.raised = raised;
            units = 0;
            scale = SCALE;
            isMore = false;
        }

        void none(int raised) {
            become(NONE, false, raised);
        }

        void infinite(boolean isMinus, int raised) {
            become(INFINITE, isMinus, raised);
        }

        void zero(boolean isMinus) {
            become(ZERO, isMinus, 0);
        }

        /** A number that is not 0. */
        void number(boolean isMinus, long units, int scale, boolean isMore) {
            state = NUMBER;
            raised = 0;
            this.isMinus = isMinus;
            this.units = units;
            this.scale = scale;
            this.isMore = isMore;
        }

        /** An exact sum; one of 0 has the sign that the rounding gives it. */
        void total(long sum, int scale) {
            if (sum == 0) {
                become(CANCELLED, false, 0);
            } else {
                number(sum < 0, Math.abs(sum), scale, false);
            }
        }

        void ofCode(Format format, int code) {
            if (format.isNone(code)) {
                none(0);
            } else if (format.isInfinite(code)) {
                infinite(format.isMinus(code), 0);
            } else if (format.isZero(code)) {
                zero(format.isMinus(code));
            } else {
                number(format.isMinus(code), format.amount(code), 12, false);
            }
        }

        /** a divided by b, both above 0, a below 2 to the power of 34. */
        void quotient(boolean isMinus, long a, long b) {
            if (b > 0) {
                long wide = a << SCALE;
                number(isMinus, wide / b, SCALE, wide % b != 0);
            }
        }

        /** A mantissa, in units of 2 to the power of -places, times 2 to the power of exponent. */
        void scaled(boolean isMinus, long mantissa, int places, int exponent, boolean isMore) {
            int shift = SCALE + exponent - places;
            if (exponent > 9) {
                // above all limits, and the mantissa is at least 1: just that counts
                number(isMinus, 1L << (SCALE + 10), SCALE, isMore);
            } else if (shift >= 0) {
                number(isMinus, mantissa << shift, SCALE, isMore);
            } else if (shift < -62) {
                number(isMinus, 0, SCALE, true);
            } else {
                long lost = mantissa & ((1L << -shift) - 1);
                number(isMinus, mantissa >> -shift, SCALE, isMore || lost != 0);
            }
        }

        long packed() {
            return (units << 4) + (isMinus ? 4 : 0) + (isMore ? 2 : 0) + 1;
        }

        void unpack(long packed, int scale) {
            number((packed & 4) != 0, packed >> 4, scale, (packed & 2) != 0);
            if (units == 0 && !isMore) {
                zero(isMinus);
            }
        }

        void turn() {
            isMinus = !isMinus;
        }

        int rounded(Format to, char rounding) {
            switch (state) {
                case ZERO:
                    return to.withSign(isMinus, 0);
                case CANCELLED:
                    return to.withSign(rounding == 'd', 0);
                case INFINITE:
                    return to.withSign(isMinus, to.infinite);
                case NONE:
                    return to.none;
                default:
                    return roundedNumber(to, rounding);
            }
        }

        private int roundedNumber(Format to, char rounding) {
            int top = Fixed.topBit(units) - scale;
            int exponent = Math.max(top, 1 - to.bias);
            int shift = scale + exponent - to.fractions;
            long whole = units >> shift;
            long below = units - (whole << shift);
            boolean isExact = below == 0 && !isMore;
            long code = ((long) (exponent - 1 + to.bias) << to.fractions) + whole;
            if (!isExact && isUp(rounding, (whole & 1) != 0, below, shift)) {
                code++;
            }
            if (code >= to.infinite) {
                raised = OVERFLOW + NOT_EXACT;
                return to.overflowed(isMinus, rounding);
            }
            raised = isExact ? 0 : NOT_EXACT;
            if (!isExact && top < 1 - to.bias) {
                raised += UNDERFLOW;
            }
            return to.withSign(isMinus, (int) code);
        }

        private boolean isUp(char rounding, boolean isOdd, long below, int shift) {
            long half = 1L << (shift - 1);
            switch (rounding) {
                case 'n':
                    return below > half || (below == half && (isMore || isOdd));
                case 'a':
                    return below >= half;
                case 'u':
                    return !isMinus;
                case 'd':
                    return isMinus;
                default:
                    return false;
            }
        }

        /** How far it is from the midpoint, in 65536ths of the step; -1 if it is none of the hard cases. */
        int gap(Format format) {
            int top = Fixed.topBit(units) - scale;
            if (state != NUMBER || top < 1 - format.bias) {
                return -1;
            }
            int shift = scale + top - format.fractions;
            long whole = units >> shift;
            long below = units - (whole << shift);
            long code = ((long) (top - 1 + format.bias) << format.fractions) + whole;
            if ((below == 0 && !isMore) || code >= format.infinite - 1) {
                return -1;
            }
            // at least 0: steps are no less than 2 to the power of -12, of third roots -10
            int finer = shift - 16;
            int parts = (int) (below >> finer);
            boolean isBetween = isMore || below != (long) parts << finer;
            if (parts >= 32768) {
                return parts - 32768;
            }
            return 32768 - parts - (isBetween ? 1 : 0);
        }
    }

    /** Arithmetic on whole numbers that stand for fractions; ONE is 1 in units of 2 to the power of -60. */
    private static final class Fixed {
        static final long ONE = 1L << 60;
        static final long PI = 3622009729038561421L;
        private static final long LN_2 = 799144290325165979L;
        private static final long LOW_HALF = (1L << 30) - 1;
        // the sine and the cosine of a 4096th of pi
        private static final long SMALL_SINE = 884279632303724L;
        private static final long SMALL_COSINE = 1152921165489838583L;

        /** The logarithms to the base 2 of 1 and so many 64ths: no value has more bits. */
        private static final long[] LOGARITHMS = {
            0L, 25788332651530406L, 51182934886444090L, 76195648900823467L,
            100837790531531112L, 125120179995327398L, 149053170416303219L, 172646674329879364L,
            195910188333191412L, 218852816035280480L, 241483289445896830L, 263809988928679417L,
            285840961832812868L, 307583939906821491L, 329046355588796001L, 350235357258939190L,
            371157823532753600L, 391820376666382824L, 412229395139475350L, 432391025475392781L,
            452311193353568813L, 471995614064284711L, 491449802352011305L, 510679081689732512L,
            529688593023271872L, 548483303021556867L, 567068011865945012L, 585447360609173402L,
            603625838132155180L, 621607787724710351L, 639397413314365170L, 656998785365566468L,
            674415846470019194L, 691652416647353188L, 708712198373946214L, 725598781356463284L,
            742315647065507199L, 758866173043702895L, 775253637001550306L, 791481220713469788L,
            807552013725623783L, 823469016886322413L, 839235145709103587L, 854853233577914885L,
            870326034803210606L, 885656227537208736L, 900846416556025471L, 915899135915916024L,
            930816851490396595L, 945601963394600808L, 960256808302832062L, 974783661664908780L,
            989184739826560294L, 1003462202058815195L, 1017618152501029530L, 1031654642021927707L,
            1045573670002772794L, 1059377186046543743L, 1073067091616773679L, 1086645241609494544L,
            1100113445861538133L, 1113473470598260799L, 1126727039823588007L, 1139875836655114673L};

        /** 2 to the power of a half, of a quarter and so on, to that of a 4096th. */
        private static final long[] ROOTS_OF_2 = {
            1630477228166597777L, 1371062456318104878L, 1257269815929830109L, 1203965700457697123L,
            1178167198179750971L, 1165475996665667822L, 1159181754367685998L, 1156047391917129430L,
            1154483390303177194L, 1153702183144312517L, 1153311777820267002L, 1153116624702523244L};

        /** The place of the highest bit, -1 of 0. */
        static int topBit(long number) {
            int top = number == 0 ? -1 : 0;
            for (int by = 32; by > 0; by >>= 1) {
                if (number >> by != 0) {
                    number >>= by;
                    top += by;
                }
            }
            return top;
        }

        /** A product of two that are at most 2, too small by less than 4 units. */
        static long times(long a, long b) {
            long aHigh = a >> 30;
            long bHigh = b >> 30;
            long across = aHigh * (b & LOW_HALF) + bHigh * (a & LOW_HALF);
            return aHigh * bHigh + (across >> 30);
        }

        /** The fraction, in 64ths, of an amount above 0 that is brought below 2 and to at least 1. */
        static int fraction(int amount, int top) {
            return ((amount << 6) >> top) & 63;
        }

        /** The logarithm of what fraction tells. */
        static long logarithm(int fraction) {
            return LOGARITHMS[fraction & 63];
        }

        /** 2 to the power of a fraction below 1, by the series. */
        static long twoTo(long fraction) {
            long by = times(fraction, LN_2);
            long term = ONE;
            long total = ONE;
            for (int n = 1; n < 40 && term != 0; n++) {
                term = times(term, by) / n;
                total += term;
            }
            return total;
        }

        /** 2 to the power of so many 4096ths, by the roots of 2. */
        static long twoToByRoots(int fraction) {
            long product = ONE;
            for (int i = 0; i < 12; i++) {
                if ((fraction >> (11 - i) & 1) != 0) {
                    product = times(product, ROOTS_OF_2[i]);
                }
            }
            return product;
        }

        /** The sine, or the cosine, of so many 4096ths of pi, at most a quarter of pi, by the series. */
        private static long series(int part, boolean isSine) {
            long angle = part * (PI >> 12) + (part * (PI & 4095) >> 12);
            long square = times(angle, angle);
            long term = isSine ? angle : ONE;
            long total = term;
            for (int n = isSine ? 2 : 1; n < 40 && term != 0; n += 2) {
                term = -(times(Math.abs(term), square) / (n * (n + 1))) * (term < 0 ? -1 : 1);
                total += term;
            }
            return total;
        }

        /** The sine of so many 4096ths of pi, below a half of pi, by turning and turning twice as far. */
        private static long byTurns(int part) {
            long sine = 0;
            long cosine = ONE;
            for (int bit = 10; bit >= 0; bit--) {
                long doubled = 2 * times(sine, cosine);
                cosine = times(cosine, cosine) - times(sine, sine);
                sine = doubled;
                if ((part >> bit & 1) != 0) {
                    long turned = times(sine, SMALL_COSINE) + times(cosine, SMALL_SINE);
                    cosine = times(cosine, SMALL_COSINE) - times(sine, SMALL_SINE);
                    sine = turned;
                }
            }
            return sine;
        }

        /** The sine of so many 4096ths of pi, less than 8192. */
        static void sine(int part, boolean isAnew, Truth into) {
            boolean isMinus = part >= 4096;
            int fold = Math.min(part & 4095, 4096 - (part & 4095));
            if (fold == 0) {
                into.zero(false);
            } else if (fold == 2048) {
                into.scaled(isMinus, 1, 0, 0, false);
            } else if (isAnew) {
                into.scaled(isMinus, byTurns(fold), 60, 0, true);
            } else {
                into.scaled(isMinus, fold <= 1024 ? series(fold, true) : series(2048 - fold, false), 60, 0, true);
            }
        }

        /** The root of a divided by b, bit by bit; the quotient is below 2 to the power of 18. */
        static void root(long a, long b, Truth into) {
            if (b <= 0) {
                return;
            }
            long whole = a / b;
            long left = a % b;
            long root = 0;
            long over = 0;
            for (int pair = 8; pair >= -Truth.SCALE; pair--) {
                over *= 4;
                if (pair >= 0) {
                    over += (whole >> (2 * pair)) & 3;
                } else {
                    over += 4 * left / b;
                    left = 4 * left % b;
                }
                long needed = 4 * root + 1;
                root *= 2;
                if (over >= needed) {
                    over -= needed;
                    root++;
                }
            }
            into.number(false, root, Truth.SCALE, over != 0 || left != 0);
        }

        /** The root of the third power, bit by bit, in as many bits as longs allow. */
        static void thirdRoot(int amount, Truth into) {
            long root = 0;
            long over = 0;
            for (int shift = 18; shift >= -66; shift -= 3) {
                over = 8 * over + (shift >= 0 ? (amount >> shift) & 7 : 0);
                long needed = 12 * root * root + 6 * root + 1;
                root *= 2;
                if (over >= needed) {
                    over -= needed;
                    root++;
                }
            }
            into.number(false, root, Single.scaleOf('b'), over != 0);
        }

        static int digitOfQuotient(int dividend, int divisor, int index) {
            // w and v in units of 2 to the power of -22
            long w = (long) dividend << (20 - topBit(dividend));
            long v = (long) divisor << (21 - topBit(divisor));
            long half = 1L << 21;
            int found = 0;
            for (int i = 0; i <= index; i++) {
                w *= 2;
                found = w >= half ? 1 : w < -half ? -1 : 0;
                w -= found * v;
            }
            return found;
        }

        static int floatBitsOf(boolean isMinus, int amount) {
            int sign = isMinus ? 1 << 31 : 0;
            if (amount == 0) {
                return sign;
            }
            int top = topBit(amount);
            int part = (amount << (23 - top)) & ((1 << 23) - 1);
            return sign | (top - 12 + 127) << 23 | part;
        }
    }

    /** Functions of one argument. What was worked out once is kept, for each amount that any format has. */
    private static final class Single {
        private static final int AMOUNTS = 960;
        private static final char[] LETTERS = {'q', 'b', 'i', 'r', 'e', 'l', 's', 'c'};
        // of arguments below 0 only 2 to the power of them needs a row of its own
        private static final int ROWS = 9;
        private static final long FOUND = 8;

        private final Format widest;
        private final long[] kept;

        Single() {
            widest = new Format(4, 6);
            kept = new long[ROWS * AMOUNTS];
        }

        /** -1 if there is no such function. */
        static int number(char function) {
            for (int i = 0; i < LETTERS.length; i++) {
                if (LETTERS[i] == function) {
                    return i;
                }
            }
            return -1;
        }

        /** Third roots are in larger units: longs hold no more of their remainder. */
        static int scaleOf(char function) {
            return function == 'b' ? 26 : Truth.SCALE;
        }

        void ask(Format format, char function, int code, Truth into) {
            if (isSpecial(format, function, code, into)) {
                return;
            }
            int argument = format.signed(code);
            int at = slot(function, argument);
            if (at < 0 || at >= kept.length) {
                // no function and no amount of a format comes here: the index is looked at all the same
                into.none(0);
                return;
            }
            if (kept[at] == 0) {
                workOut(function, argument, into);
                kept[at] = into.packed();
            }
            into.unpack(kept[at], scaleOf(function));
            if (argument < 0 && (function == 'b' || function == 'i' || function == 's')) {
                into.turn();
            }
        }

        /** An amount has the place of its code in the widest format. */
        private static int slot(char function, int argument) {
            int amount = Math.abs(argument);
            int row = function == 'e' && argument < 0 ? ROWS - 1 : number(function);
            int above = Math.max(Fixed.topBit(amount) - 6, 0);
            return row * AMOUNTS + above * 64 + (amount >> above);
        }

        static boolean isSpecial(Format format, char function, int code, Truth into) {
            boolean isMinus = format.isMinus(code);
            if (format.isNone(code)) {
                into.none(0);
            } else if (format.isInfinite(code)) {
                atInfinite(function, isMinus, into);
            } else if (format.isZero(code)) {
                return atZero(function, isMinus, into);
            } else if (isMinus && (function == 'q' || function == 'r' || function == 'l')) {
                into.none(Truth.INVALID);
            } else {
                return false;
            }
            return true;
        }

        private static void atInfinite(char function, boolean isMinus, Truth into) {
            if (function == 'b') {
                into.infinite(isMinus, 0);
            } else if (function == 'i') {
                into.zero(isMinus);
            } else if (function == 'e' && isMinus) {
                into.zero(false);
            } else if (isMinus || function == 's' || function == 'c') {
                into.none(Truth.INVALID);
            } else if (function == 'r') {
                into.zero(false);
            } else {
                into.infinite(false, 0);
            }
        }

        private static boolean atZero(char function, boolean isMinus, Truth into) {
            switch (function) {
                case 'e':
                case 'c':
                    return false;
                case 'i':
                case 'r':
                    into.infinite(isMinus, Truth.DIVIDED);
                    return true;
                case 'l':
                    into.infinite(true, Truth.DIVIDED);
                    return true;
                default:
                    into.zero(isMinus);
                    return true;
            }
        }

        private static void workOut(char function, int argument, Truth into) {
            int amount = Math.abs(argument);
            switch (function) {
                case 'q':
                    Fixed.root(amount, 4096, into);
                    break;
                case 'b':
                    Fixed.thirdRoot(amount, into);
                    break;
                case 'i':
                    into.quotient(false, 4096, amount);
                    break;
                case 'r':
                    Fixed.root(4096, amount, into);
                    break;
                case 'e':
                    boolean isMore = (argument & 4095) != 0;
                    into.scaled(false, Fixed.twoTo((long) (argument & 4095) << 48), 60, argument >> 12, isMore);
                    break;
                case 'l':
                    logarithm(amount, into);
                    break;
                default:
                    Fixed.sine((function == 's' ? amount : amount + 2048) & 8191, false, into);
                    break;
            }
        }

        private static void logarithm(int amount, Truth into) {
            int top = Fixed.topBit(amount);
            int fraction = Fixed.fraction(amount, top);
            long found = ((long) (top - 12) << 56) + (Fixed.logarithm(fraction) >> 4);
            if (found == 0) {
                into.zero(false);
            } else {
                into.scaled(found < 0, Math.abs(found), 56, 0, fraction != 0);
            }
        }

        /** Whether all that is kept is found by the other way; what was found once needs no second search. */
        boolean isSound(Anew anew, Truth truth) {
            for (int at = 0; at < kept.length; at++) {
                if (kept[at] != 0 && (kept[at] & FOUND) == 0) {
                    if (!isFound(at, anew, truth)) {
                        return false;
                    }
                    kept[at] |= FOUND;
                }
            }
            return true;
        }

        private boolean isFound(int at, Anew anew, Truth truth) {
            int row = at / AMOUNTS;
            int amount = widest.amount(at % AMOUNTS);
            char function = row < LETTERS.length ? LETTERS[row] : 'e';
            truth.unpack(kept[at], scaleOf(function));
            int from = widest.bare(truth.rounded(widest, 'z'));
            int code = truth.rounded(widest, 'n');
            anew.take(function, row < LETTERS.length ? amount : -amount);
            return code == anew.answerFrom(widest, 'n', from);
        }
    }

    /** Functions of one argument in the other way: values are tried, each by comparing it with the result. */
    private static final class Anew {
        private final Truth own;
        private char function;
        private long amount;

        Anew() {
            own = new Truth();
        }

        int answer(Format format, char function, int code, char rounding) {
            if (Single.isSpecial(format, function, code, own)) {
                return own.rounded(format, rounding);
            }
            take(function, format.signed(code));
            return answerFrom(format, rounding, 0);
        }

        /** For what was taken, from a bare code on whose value is not above the result's amount; -1 if it is. */
        int answerFrom(Format format, char rounding, int from) {
            int below = from;
            if (side(2L * format.amount(below)) < 0) {
                return -1;
            }
            while (below < format.infinite && side(2L * format.amount(below + 1)) >= 0) {
                below++;
            }
            if (below >= format.infinite) {
                return format.overflowed(own.isMinus, rounding);
            }
            boolean isUp = side(2L * format.amount(below)) > 0 && isUp(format, rounding, below);
            return format.withSign(own.isMinus, isUp ? below + 1 : below);
        }

        private boolean isUp(Format format, char rounding, int below) {
            int half = side((long) format.amount(below) + format.amount(below + 1));
            switch (rounding) {
                case 'n':
                    return half > 0 || (half == 0 && (below & 1) != 0);
                case 'a':
                    return half >= 0;
                case 'u':
                    return !own.isMinus;
                case 'd':
                    return own.isMinus;
                default:
                    return false;
            }
        }

        /** Roots and quotients are compared by powers and products, the others are worked out by other means. */
        void take(char function, int argument) {
            this.function = function;
            amount = Math.abs(argument);
            switch (function) {
                case 'e':
                    int fraction = argument & 4095;
                    own.scaled(false, Fixed.twoToByRoots(fraction), 60, argument >> 12, fraction != 0);
                    break;
                case 'l':
                    takeLogarithm((int) amount);
                    break;
                case 's':
                    Fixed.sine((int) amount & 8191, true, own);
                    break;
                case 'c':
                    Fixed.sine((int) (amount + 2048) & 8191, true, own);
                    break;
                default:
                    own.zero(false);
                    break;
            }
            if (argument < 0 && (function == 'b' || function == 'i' || function == 's')) {
                own.turn();
            }
        }

        /** Each squaring tells the next bit of the logarithm. */
        private void takeLogarithm(int amount) {
            int top = Fixed.topBit(amount);
            boolean isMore = Fixed.fraction(amount, top) != 0;
            long square = (long) amount << (60 - top);
            long found = top - 12;
            for (int i = 0; i < Truth.SCALE; i++) {
                square = Fixed.times(square, square);
                found *= 2;
                if (square >= 2 * Fixed.ONE) {
                    square >>= 1;
                    found++;
                }
            }
            if (found < 0) {
                own.number(true, isMore ? -found - 1 : -found, Truth.SCALE, isMore);
            } else {
                own.number(false, found, Truth.SCALE, isMore);
            }
        }

        /** Compares the result's amount with a number of units of 2 to the power of -13. */
        private int side(long tried) {
            switch (function) {
                case 'q':
                    return Long.compare(amount << 14, tried * tried);
                case 'b':
                    return Long.compare(amount << 27, tried * tried * tried);
                case 'i':
                    return Long.compare(1L << 25, tried * amount);
                case 'r':
                    return Long.compare(1L << 38, tried * tried * amount);
                default:
                    int whole = Long.compare(own.units, tried << (Truth.SCALE - 13));
                    return whole == 0 && own.isMore ? 1 : whole;
            }
        }
    }

    /** Arguments reduced by a half of pi. */
    private static final class Reduce {
        private static final int SCALE = 50;
        private static final long HALF_PI = 1768559438007110L;
        // in units of 2 to the power of -40
        private static final long TWO_BY_PI = 699970842190L;

        static int quarters(int amount) {
            return (int) (amount * TWO_BY_PI + (1L << 51) >> 52);
        }

        /** Of an amount; in units of 2 to the power of -50, less than 0 where the quarter is above it. */
        private static long restOf(int amount, int quarters) {
            return ((long) amount << (SCALE - 12)) - quarters * HALF_PI;
        }

        static void ask(Format format, int code, Truth into) {
            int amount = format.amount(code);
            int quarters = quarters(amount);
            if (quarters == 0) {
                into.ofCode(format, code);
            } else {
                long left = restOf(amount, quarters);
                into.scaled(left < 0 != format.isMinus(code), Math.abs(left), SCALE, 0, true);
            }
        }

        /** The code above 0 with a quarter and the least amount of its rest; -1 if there is none. */
        static int leastRest(Format format) {
            int found = -1;
            long least = 0;
            for (int code = 1; code < format.infinite; code++) {
                int amount = format.amount(code);
                int quarters = quarters(amount);
                long left = Math.abs(restOf(amount, quarters));
                if (quarters != 0 && (found < 0 || left < least)) {
                    found = code;
                    least = left;
                }
            }
            return found;
        }
    }

    /** Functions of two arguments, and what is made of them. */
    private static final class Pair {
        static boolean isFunction(char function) {
            return function == '+' || function == '-' || function == '*' || function == '/' || function == 'h'
                || function == 'p';
        }

        static void ask(Format format, char function, int a, int b, Truth into) {
            if (function == 'p') {
                raise(format, a, b, into);
            } else if (function == '/') {
                quotient(format, a, b, into);
            } else if (function == 'h') {
                hypotenuse(format, a, b, into);
            } else {
                totalOrProduct(format, function, a, b, into);
            }
        }

        private static void totalOrProduct(Format format, char function, int a, int b, Truth into) {
            if (format.isNone(a) || format.isNone(b)) {
                into.none(0);
            } else if (function == '*') {
                product(format, a, b, into);
            } else {
                total(format, a, function == '-' ? b ^ format.minus : b, into);
            }
        }

        private static void total(Format format, int a, int b, Truth into) {
            boolean isMinus = format.isMinus(a);
            boolean isAlike = isMinus == format.isMinus(b);
            if (format.isInfinite(a) && format.isInfinite(b) && !isAlike) {
                into.none(Truth.INVALID);
            } else if (format.isInfinite(a)) {
                into.infinite(isMinus, 0);
            } else if (format.isInfinite(b)) {
                into.infinite(format.isMinus(b), 0);
            } else if (format.isZero(a) && format.isZero(b) && isAlike) {
                into.zero(isMinus);
            } else {
                into.total((long) format.signed(a) + format.signed(b), 12);
            }
        }

        private static void product(Format format, int a, int b, Truth into) {
            boolean isMinus = format.isMinus(a) != format.isMinus(b);
            boolean isZero = format.isZero(a) || format.isZero(b);
            if (format.isInfinite(a) || format.isInfinite(b)) {
                if (isZero) {
                    into.none(Truth.INVALID);
                } else {
                    into.infinite(isMinus, 0);
                }
            } else if (isZero) {
                into.zero(isMinus);
            } else {
                into.number(isMinus, (long) format.amount(a) * format.amount(b), 24, false);
            }
        }

        private static void quotient(Format format, int a, int b, Truth into) {
            boolean isMinus = format.isMinus(a) != format.isMinus(b);
            if (format.isNone(a) || format.isNone(b)) {
                into.none(0);
            } else if ((format.isInfinite(a) && format.isInfinite(b)) || (format.isZero(a) && format.isZero(b))) {
                into.none(Truth.INVALID);
            } else if (format.isInfinite(a)) {
                into.infinite(isMinus, 0);
            } else if (format.isInfinite(b) || format.isZero(a)) {
                into.zero(isMinus);
            } else if (format.isZero(b)) {
                into.infinite(isMinus, Truth.DIVIDED);
            } else {
                into.quotient(isMinus, format.amount(a), format.amount(b));
            }
        }

        private static void hypotenuse(Format format, int a, int b, Truth into) {
            if (format.isInfinite(a) || format.isInfinite(b)) {
                into.infinite(false, 0);
            } else if (format.isNone(a) || format.isNone(b)) {
                into.none(0);
            } else if (format.isZero(a) && format.isZero(b)) {
                into.zero(false);
            } else {
                long first = format.amount(a);
                long second = format.amount(b);
                Fixed.root(first * first + second * second, 1L << 24, into);
            }
        }

        static void productAndSum(Format format, int a, int b, int c, Truth into) {
            if (format.isNone(a) || format.isNone(b) || format.isNone(c)) {
                into.none(0);
                return;
            }
            boolean isMinus = format.isMinus(a) != format.isMinus(b);
            if (format.isInfinite(a) || format.isInfinite(b)) {
                boolean isAgainst = format.isInfinite(c) && format.isMinus(c) != isMinus;
                if (isAgainst || format.isZero(a) || format.isZero(b)) {
                    into.none(Truth.INVALID);
                } else {
                    into.infinite(isMinus, 0);
                }
                return;
            }
            long product = (long) format.signed(a) * format.signed(b);
            if (format.isInfinite(c)) {
                into.infinite(format.isMinus(c), 0);
            } else if (product == 0 && format.isZero(c) && format.isMinus(c) == isMinus) {
                into.zero(isMinus);
            } else {
                into.total(product + ((long) format.signed(c) << 12), 24);
            }
        }

        /** The first one to the power of the second one. */
        private static void raise(Format format, int a, int b, Truth into) {
            int one = format.bias << format.fractions;
            if (format.isZero(b) || a == one) {
                into.scaled(false, 1, 0, 0, false);
            } else if (format.isNone(a) || format.isNone(b)) {
                into.none(0);
            } else if (format.isInfinite(b)) {
                raiseToInfinite(format, a, b, into);
            } else {
                int by = format.signed(b);
                boolean isWhole = (by & 4095) == 0;
                boolean isMinus = format.isMinus(a) && isWhole && (by >> 12 & 1) != 0;
                if (format.isZero(a) && by < 0) {
                    into.infinite(isMinus, Truth.DIVIDED);
                } else if (format.isZero(a) || (format.isInfinite(a) && by < 0)) {
                    into.zero(isMinus);
                } else if (format.isInfinite(a)) {
                    into.infinite(isMinus, 0);
                } else if (format.isMinus(a) && !isWhole) {
                    into.none(Truth.INVALID);
                } else if (!isDyadic(isMinus, format.amount(a), by, into)) {
                    raiseByLogarithm(isMinus, format.amount(a), by, into);
                }
            }
        }

        private static void raiseToInfinite(Format format, int a, int b, Truth into) {
            boolean isFinite = format.isFinite(a);
            if (isFinite && format.amount(a) == 4096) {
                into.scaled(false, 1, 0, 0, false);
            } else if ((isFinite && format.amount(a) < 4096) == format.isMinus(b)) {
                into.infinite(false, 0);
            } else {
                into.zero(false);
            }
        }

        /**
         * Powers that could be a value or a midpoint: a whole number below 256 times a power of 2. All others lie
         * between these, so that the logarithm, though it is not exact, tells on which side.
         */
        private static boolean isDyadic(boolean isMinus, int amount, int by, Truth into) {
            int odd = amount;
            int twos = -12;
            for (int i = 0; i < 20 && (odd & 1) == 0; i++) {
                odd >>= 1;
                twos++;
            }
            long times = by;
            for (int i = 0; i < 12 && (times & 4095) != 0 && (twos & 1) == 0 && rootOfSquare(odd) > 0; i++) {
                odd = rootOfSquare(odd);
                twos >>= 1;
                times <<= 1;
            }
            if ((times & 4095) != 0 || (times < 0 && odd > 1)) {
                return false;
            }
            int whole = (int) (times >> 12);
            long part = 1;
            for (int i = 0; i < whole && odd > 1 && part < 256; i++) {
                part *= odd;
            }
            if (part >= 256) {
                return false;
            }
            into.scaled(isMinus, part, 0, twos * whole, false);
            return true;
        }

        /** 0 if it is no square of an odd number below 12. */
        private static int rootOfSquare(int odd) {
            for (int root = 1; root < 12; root += 2) {
                if (root * root == odd) {
                    return root;
                }
            }
            return 0;
        }

        private static void raiseByLogarithm(boolean isMinus, int amount, int by, Truth into) {
            int top = Fixed.topBit(amount);
            long logarithm = Fixed.logarithm(Fixed.fraction(amount, top));
            long high = by * (logarithm >> 30) << 6;
            long low = by * (logarithm & ((1L << 30) - 1)) >> 24;
            long exponent = ((long) by * (top - 12) << 36) + high + low;
            long fraction = (exponent & ((1L << 48) - 1)) << 12;
            into.scaled(isMinus, Fixed.twoTo(fraction), 60, (int) (exponent >> 48), true);
        }

        /** A sum, a difference or a product by 'n'. */
        static int nearest(Format format, char function, int a, int b, Truth scratch) {
            totalOrProduct(format, function, a, b, scratch);
            return scratch.rounded(format, 'n');
        }

        /** What the rounded result of finite codes lacks, a code; -1 if it is no value. */
        static int lacking(Format format, char function, int a, int b, int rounded, Truth scratch) {
            long first = format.signed(a);
            long second = format.signed(b);
            long result = function == '+' ? first + second << 12 : first * second;
            scratch.total(result - ((long) format.signed(rounded) << 12), 24);
            int code = scratch.rounded(format, 'n');
            return scratch.raised == 0 ? code : -1;
        }

        static int byScheme(Format format, int c, int d, int f, int x, boolean isFirst, Truth scratch) {
            if (isFirst) {
                int inner = nearest(format, '+', nearest(format, '*', f, x, scratch), d, scratch);
                return nearest(format, '+', nearest(format, '*', inner, x, scratch), c, scratch);
            }
            int left = nearest(format, '+', c, nearest(format, '*', d, x, scratch), scratch);
            int square = nearest(format, '*', x, x, scratch);
            return nearest(format, '+', left, nearest(format, '*', f, square, scratch), scratch);
        }

        /** The true polynomial of finite codes, in units of 2 to the power of -36. */
        static long trueCubes(Format format, int c, int d, int f, int x) {
            long at = format.signed(x);
            return format.signed(f) * at * at + (format.signed(d) * at << 12) + ((long) format.signed(c) << 24);
        }
    }

    /** The row of codes; its format is -1 till one is told. */
    private static final class Row {
        private static final int MOST = 20;
        private final int[] codes;
        private int count;
        int format;

        Row() {
            codes = new int[MOST];
            format = -1;
        }

        boolean takes(int format) {
            return format != this.format || count < MOST;
        }

        int put(int format, int code) {
            if (format != this.format) {
                this.format = format;
                count = 0;
            }
            if (count < MOST) {
                codes[count] = code;
                count++;
            }
            return count;
        }

        int clear() {
            int before = count;
            count = 0;
            return before;
        }

        boolean isFinite(Format own) {
            for (int i = 0; i < count; i++) {
                if (!own.isFinite(codes[i])) {
                    return false;
                }
            }
            return true;
        }

        int plainly(Format own, Truth scratch) {
            int total = 0;
            for (int i = 0; i < count; i++) {
                total = Pair.nearest(own, '+', total, codes[i], scratch);
            }
            return total;
        }

        int carefully(Format own, Truth scratch) {
            int total = 0;
            int left = 0;
            for (int i = 0; i < count; i++) {
                int next = Pair.nearest(own, '+', total, codes[i], scratch);
                if (!own.isFinite(next)) {
                    return next;
                }
                boolean isLess = own.amount(total) < own.amount(codes[i]);
                int more = isLess ? codes[i] : total;
                int less = isLess ? total : codes[i];
                int lost = Pair.nearest(own, '-', more, next, scratch);
                lost = Pair.nearest(own, '+', lost, less, scratch);
                left = Pair.nearest(own, '+', left, lost, scratch);
                total = next;
            }
            return Pair.nearest(own, '+', total, left, scratch);
        }

        long exactly(Format own) {
            long total = 0;
            for (int i = 0; i < count; i++) {
                total += own.signed(codes[i]);
            }
            return total;
        }

        long dot(Format own) {
            long total = 0;
            for (int i = 0; i + 1 < count; i += 2) {
                total += (long) own.signed(codes[i]) * own.signed(codes[i + 1]);
            }
            return total;
        }
    }

    /** What is asked of many codes: hard cases, quick answers, tables, lines and whether all goes one way. */
    private static final class Hard {
        static final int MOST_IN_LINE = 24;
        private final Truth truth;
        private final long[] heights;

        Hard() {
            truth = new Truth();
            heights = new long[MOST_IN_LINE];
        }

        int hardestCode(Format format, char function, Single single) {
            int found = -1;
            int least = 0;
            for (int code = 0; code < format.size(); code++) {
                single.ask(format, function, code, truth);
                int gap = truth.gap(format);
                if (gap >= 0 && (found < 0 || gap < least)) {
                    found = code;
                    least = gap;
                }
            }
            return found;
        }

        int tablePlace(Format format, char function, int code, int around, Single single) {
            int found = -1;
            int greatest = -1;
            int last = Math.min(code + around, format.infinite - 1);
            for (int tried = Math.max(code - around, 0); tried <= last; tried++) {
                single.ask(format, function, tried, truth);
                int gap = truth.gap(format);
                if (gap > greatest) {
                    found = tried;
                    greatest = gap;
                }
            }
            return found;
        }

        /** How many of the codes that count have a quick answer that is wrong, or is not surely right. */
        int countQuick(Format narrow, Format wide, char function, boolean isWrongAsked, Single single) {
            int found = 0;
            for (int code = 0; code < narrow.size(); code++) {
                if (narrow.isFinite(code)) {
                    single.ask(narrow, function, code, truth);
                    int once = narrow.bare(truth.rounded(narrow, 'n'));
                    int answer = truth.rounded(wide, 'n');
                    boolean counts = wide.isFinite(answer) && !wide.isZero(answer);
                    // signs agree in any case: what is rounded to 0 keeps its sign
                    if (counts && (isWrongAsked ? once != bareOf(narrow, wide.amount(answer))
                            : !isSure(narrow, wide, wide.bare(answer)))) {
                        found++;
                    }
                }
            }
            return found;
        }

        private boolean isSure(Format narrow, Format wide, int bare) {
            if (bare >= wide.infinite - 1) {
                return false;
            }
            int amount = wide.amount(bare);
            int step = wide.amount(bare + 1) - amount;
            return bareOf(narrow, amount - step) == bareOf(narrow, amount + step);
        }

        private int bareOf(Format format, int amount) {
            truth.total(amount, 12);
            return truth.rounded(format, 'n');
        }

        boolean hasLine(Format format, char function, int from, int to, Single single) {
            for (int i = 0; i < MOST_IN_LINE && from + i <= to; i++) {
                single.ask(format, function, from + i, truth);
                int answer = truth.rounded(format, 'n');
                if (!format.isFinite(answer)) {
                    return false;
                }
                heights[i] = format.signed(answer);
            }
            return true;
        }

        /** The best line's error is that of three of the points, which lie by turns above and below it. */
        int lineError(int count) {
            long most = 0;
            for (int k = 2; k < count && k < MOST_IN_LINE; k++) {
                for (int j = 1; j < k; j++) {
                    for (int i = 0; i < j; i++) {
                        long off = heights[j] * (k - i) - heights[i] * (k - j) - heights[k] * (j - i);
                        most = Math.max(most, 2048 * Math.abs(off) / (k - i));
                    }
                }
            }
            return (int) most;
        }

        boolean isOneWay(Format format, char function, char rounding, Single single) {
            boolean isRising = true;
            boolean isFalling = true;
            boolean isFirst = true;
            int last = 0;
            for (int rank = 1 - format.infinite; rank < format.infinite; rank++) {
                // both zeros have the same value, and finite answers for it are alike
                single.ask(format, function, format.withSign(rank < 0, Math.abs(rank)), truth);
                int answer = truth.rounded(format, rounding);
                if (format.isFinite(answer)) {
                    int next = format.rank(answer);
                    isRising &= isFirst || next >= last;
                    isFalling &= isFirst || next <= last;
                    isFirst = false;
                    last = next;
                }
            }
            return isRising || isFalling;
        }
    }

    /** The typed text, and the shortest text of a code. */
    private static final class Text {
        private static final int MOST = 10;
        private final char[] signs;
        private int count;
        int shortest;
        int tens;

        Text() {
            signs = new char[MOST];
        }

        boolean isFull() {
            return count >= MOST;
        }

        int put(char sign) {
            if (count < MOST) {
                signs[count] = sign;
                count++;
            }
            return count;
        }

        int clear() {
            int before = count;
            count = 0;
            return before;
        }

        boolean isNumber(Truth into) {
            boolean isMinus = count > 0 && signs[0] == '-';
            boolean isBehindPoint = false;
            int seen = 0;
            long number = 0;
            long divisor = 1;
            for (int i = isMinus ? 1 : 0; i < count; i++) {
                if (signs[i] == '-' || (signs[i] == '.' && isBehindPoint)) {
                    return false;
                }
                if (signs[i] == '.') {
                    isBehindPoint = true;
                } else {
                    number = 10 * number + (signs[i] - '0');
                    divisor = isBehindPoint ? 10 * divisor : divisor;
                    seen++;
                }
            }
            if (number == 0) {
                into.zero(isMinus);
            } else {
                into.quotient(isMinus, number, divisor);
            }
            return seen > 0;
        }

        /** Finds the shortest text of a bare code that is finite and not 0. */
        void shorten(Format format, int bare) {
            shortest = 0;
            tens = 0;
            long first = 1;
            for (int length = 1; length < 10 && shortest == 0; length++) {
                tryLength(format, bare, first);
                first *= 10;
            }
        }

        /** All in units of 2 to the power of -13 and 10 to the power of -9: midpoints and texts are whole there. */
        private void tryLength(Format format, int bare, long first) {
            long billion = 1000000000L;
            long middle = 2 * format.amount(bare) * billion;
            long low = ((long) format.amount(bare - 1) + format.amount(bare)) * billion;
            long high = ((long) format.amount(bare) + format.amount(bare + 1)) * billion;
            boolean isEven = (bare & 1) == 0;
            long nearest = 0;
            long unit = 8192;
            for (int power = -9; power < 3; power++) {
                for (long number = middle / unit; number <= middle / unit + 1; number++) {
                    long there = number * unit;
                    boolean isInside = (there > low && there < high) || (isEven && (there == low || there == high));
                    long away = Math.abs(there - middle);
                    boolean isBetter = shortest == 0 || away < nearest || (away == nearest && there < middle);
                    if (isInside && isBetter && number >= first && number < 10 * first) {
                        shortest = (int) number;
                        tens = power;
                        nearest = away;
                    }
                }
                unit *= 10;
            }
        }
    }

    /** Certificates that are kept, each by its format, function and rounding. */
    private static final class Certificates {
        private static final int MOST = 12;
        private final int[] keys;
        final long[] proof;
        private final boolean[] isChecked;
        int count;

        Certificates() {
            keys = new int[MOST];
            proof = new long[MOST];
            isChecked = new boolean[MOST];
        }

        static long work(Format format, char function, char rounding, Single single, Truth scratch) {
            long proof = 17;
            for (int code = 0; code < format.size(); code++) {
                single.ask(format, function, code, scratch);
                proof = 31 * proof + scratch.rounded(format, rounding);
            }
            return proof;
        }

        private static int key(int format, char function, char rounding) {
            return (format << 16) + (function << 8) + rounding;
        }

        int formatOf(int at) {
            return keys[at] >> 16;
        }

        /** -1 if it is not kept. */
        int find(int format, char function, char rounding) {
            int key = key(format, function, rounding);
            for (int at = 0; at < count; at++) {
                if (keys[at] == key) {
                    return at;
                }
            }
            return -1;
        }

        boolean isFull() {
            return count >= MOST;
        }

        int put(int format, char function, char rounding, long proof) {
            int at = Math.min(count, MOST - 1);
            keys[at] = key(format, function, rounding);
            this.proof[at] = proof;
            isChecked[at] = false;
            count = at + 1;
            return at;
        }

        /** Neither a certificate nor what it is about ever changes: it is worked out anew once. */
        boolean isSound(Format format, int at, Anew anew) {
            if (!isChecked[at]) {
                char function = (char) (keys[at] >> 8 & 255);
                char rounding = (char) (keys[at] & 255);
                long found = 17;
                for (int code = 0; code < format.size(); code++) {
                    found = 31 * found + anew.answer(format, function, code, rounding);
                }
                isChecked[at] = found == proof[at];
            }
            return isChecked[at];
        }
    }
}
