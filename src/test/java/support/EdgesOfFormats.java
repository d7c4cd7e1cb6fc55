import java.math.BigDecimal;

/** Formats, rounding and flags: 'Terms' and the promises 1 to 9. */
final class EdgesOfFormats {
    private static final Class<? extends Exception> INDEX = Sentences.INDEX;
    private static final Class<? extends Exception> ARGUMENT = Sentences.ARGUMENT;
    private static final Class<? extends Exception> STATE = Sentences.STATE;
    private static final Class<? extends Exception> ARITHMETIC = Sentences.ARITHMETIC;
    private static final Class<? extends Exception> ELEMENT = Sentences.ELEMENT;
    private final Sentences s;

    EdgesOfFormats(Sentences s) {
        this.s = s;
    }

    void all() {
        object();
        numbers();
        codes();
        values();
        noNumbers();
        limits();
        betweens();
        flags();
        underflow();
        raising();
        promises1To3();
        promises4To6();
        promise7();
        promises8And9();
    }

    static void type(Ulphouse x, String text) {
        x.erase();
        for (char sign : text.toCharArray()) {
            x.type(sign);
        }
    }

    private static Ulphouse house(int... bits) {
        Ulphouse x = new Ulphouse();
        for (int i = 0; i < bits.length; i += 2) {
            x.format(bits[i], bits[i + 1]);
        }
        return x;
    }

    // ---- formats

    private void object() {
        s.of("What it is", "An object is used for at most 512 calls after it has been made");
        Ulphouse x = house(4, 6, 4, 6, 4, 6, 4, 6, 4, 6, 4, 6);
        for (int call = 7; call <= 512; call++) {
            int format = call % 6;
            switch (call % 5) {
                case 0:
                    s.due(x.one(format, 'q', 576, 'n'), 512);
                    break;
                case 1:
                    s.due(x.add(format, 448), 1);
                    break;
                case 2:
                    s.due(x.oneAnew(format, 's', 384, 'n'), 448);
                    break;
                case 3:
                    s.due(x.line(format, 'e', 448, 448), 0);
                    break;
                default:
                    s.holds(x.isTrue());
                    break;
            }
        }
    }

    private void numbers() {
        s.of("Terms", "At most 6 formats are numbered from 0");
        Ulphouse x = new Ulphouse();
        for (int i = 0; i < 6; i++) {
            int next = i;
            s.refused(INDEX, () -> x.codes(next));
            s.due(x.format(2 + i % 3, 1 + i), i);
            s.due(x.codes(i), 1 << 1 + (2 + i % 3) + (1 + i));
        }
        s.refused(STATE, () -> x.format(2, 1));
        s.refused(INDEX, () -> x.codes(6));
        s.refused(INDEX, () -> x.codes(-1));
        for (int i = 0; i < 6; i++) {
            s.due(x.codes(i), 1 << 1 + (2 + i % 3) + (1 + i));
        }
        s.of("Terms", "each with e bits of exponents, 2 to 4");
        Ulphouse y = new Ulphouse();
        s.refused(ARGUMENT, () -> y.format(1, 3));
        s.due(y.format(2, 3), 0);
        s.refused(ARGUMENT, () -> y.format(5, 3));
        s.due(y.format(4, 3), 1);
        s.of("Terms", "and m bits of fractions, 1 to 6");
        s.refused(ARGUMENT, () -> y.format(3, 0));
        s.due(y.format(3, 1), 2);
        s.refused(ARGUMENT, () -> y.format(3, 7));
        s.due(y.format(3, 6), 3);
    }

    private void codes() {
        for (Spec f : Spec.all()) {
            s.of("Terms", "A code is a number from 0 to less than 2 to the power of 1 + e + m");
            Ulphouse x = f.house();
            int size = 1 << 1 + f.exponents + f.fractions;
            s.due(x.codes(0), size);
            s.due(x.kind(0, 0), '0');
            s.due(x.kind(0, size - 1), 'x');
            s.refused(INDEX, () -> x.kind(0, size));
            s.refused(INDEX, () -> x.kind(0, -1));
            s.of("Terms", "its highest bit is the sign, 1 for minus");
            s.due(x.kind(0, size / 2 - 1), 'x');
            s.due(x.kind(0, size / 2), '0');
            s.due(x.value(0, size / 2 + 1), -x.value(0, 1));
            s.due(x.value(0, size / 2 + f.greatest), -x.value(0, f.greatest));
            s.of("Terms", "then e bits x, then m bits f.");
            s.due(x.value(0, 1 << f.fractions), (1 << f.fractions) * x.value(0, 1));
            s.due(x.value(0, (1 << f.fractions) + 1), ((1 << f.fractions) + 1) * x.value(0, 1));
            s.of("Terms", "for x of all ones, it is infinite if f is 0, otherwise the code is no number");
            int allOnes = ((1 << f.exponents) - 1) << f.fractions;
            int[] codes = {allOnes - 1, allOnes, allOnes + 1, size / 2 - 1};
            String kinds = "nixx";
            for (int i = 0; i < 4; i++) {
                s.due(x.kind(0, codes[i]), kinds.charAt(i));
                s.due(x.kind(0, size / 2 + codes[i]), kinds.charAt(i));
            }
            s.of("Terms", "There are two zeros.");
            s.due(x.value(0, 0), 0);
            s.due(x.value(0, size / 2), 0);
            s.due(x.kind(0, 1), 's');
            s.due(x.kind(0, size / 2 + 1), 's');
            s.due(x.compare(0, 0, size / 2), 'e');
        }
    }

    private void values() {
        for (Spec f : Spec.all()) {
            Ulphouse x = f.house();
            int part = 1 << f.fractions;
            s.of("Terms", "for x of 0, the amount is f times 2 to the power of (1 - B - m)");
            int least = 1 << 12 + 1 - f.bias - f.fractions;
            s.due(x.value(0, 1), least);
            s.due(x.value(0, part - 1), (part - 1) * least);
            s.of("Terms", "for other x, it is (2 to the power of m, plus f) times 2 to the power of (x - B - m)");
            s.due(x.value(0, part), part * least);
            s.due(x.value(0, 2 * part - 1), (2 * part - 1) * least);
            s.due(x.value(0, 2 * part), 2 * part * least);
            s.due(x.value(0, f.one), 4096);
            s.due(x.value(0, f.one + 1), 4096 + (4096 >> f.fractions));
            s.due(x.value(0, f.one - 1), f.one - 1 < part ? 4096 - least : 4096 - (2048 >> f.fractions));
            int top = 1 << 12 + (1 << f.exponents) - 2 - f.bias;
            s.due(x.value(0, f.greatest), 2 * top - (top >> f.fractions));
            s.due(x.value(0, f.greatest + 1 - part), top);
        }
        s.of("Terms", "With B being 2 to the power of (e - 1), less 1");
        for (int e = 2; e <= 4; e++) {
            Ulphouse x = house(e, 1);
            s.due(x.value(0, ((1 << e - 1) - 1) * 2), 4096);
        }
    }

    private void noNumbers() {
        for (Spec f : Spec.all()) {
            s.of("Terms", "The no number that is answered has the sign 0 and just the highest bit of f.");
            Ulphouse x = f.house();
            int none = f.infinite | 1 << f.fractions - 1;
            for (int code : new int[] {f.infinite + 1, f.sign - 1, f.minus(f.infinite + 1), f.size() - 1}) {
                s.due(x.one(0, 'b', code, 'd'), none);
                s.due(x.oneAnew(0, 'b', code, 'd'), none);
                s.due(x.two(0, '+', code, f.one, 'd'), none);
                s.due(x.two(0, '-', f.one, code, 'd'), none);
                s.due(x.two(0, 'p', code, f.one, 'd'), none);
                s.due(x.fused(0, f.one, f.one, code, 'd'), none);
                s.due(x.convert(0, code, 0, 'd'), none);
                s.due(x.polynomial(0, code, 0, 0, 0, false), none);
            }
            s.due(x.one(0, 'q', f.minus(f.one), 'd'), none);
            s.due(x.two(0, '*', f.minus(f.infinite), 0, 'd'), none);
        }
        s.of("Terms", "The no number that is answered has the sign 0 and just the highest bit of f.");
        Ulphouse y = house(4, 6, 2, 1, 3, 3);
        s.due(y.convert(0, 2047, 1, 'n'), 7);
        s.due(y.convert(0, 961, 2, 'n'), 60);
        s.due(y.convert(1, 15, 0, 'n'), 992);
    }

    // ---- rounding

    private static String plain(BigDecimal number) {
        return number.stripTrailingZeros().toPlainString();
    }

    /** A text that is less by one in the place behind its last, or in the fourth one. */
    private static String less(BigDecimal number) {
        int places = Math.max(4, number.stripTrailingZeros().scale() + 1);
        return plain(number.subtract(BigDecimal.ONE.movePointLeft(places)));
    }

    private void read(Ulphouse x, String text, char rounding, int code, int flags) {
        x.clearFlags();
        type(x, text);
        s.due(text + " by " + rounding, x.read(0, rounding), code);
        s.due("flags of " + text + " by " + rounding, x.flags(), flags);
        x.clearFlags();
        type(x, "-" + text);
        char turned = rounding == 'u' ? 'd' : rounding == 'd' ? 'u' : rounding;
        int other = x.codes(0) / 2 + code;
        s.due("-" + text + " by " + turned, x.read(0, turned), other);
        s.due("flags of -" + text + " by " + turned, x.flags(), flags);
    }

    private void limits() {
        for (Spec f : Spec.all()) {
            BigDecimal greatest = new BigDecimal(f.amount(f.greatest)).divide(new BigDecimal(4096));
            BigDecimal step = greatest.subtract(new BigDecimal(f.amount(f.greatest - 1)).divide(new BigDecimal(4096)));
            BigDecimal limit = greatest.add(step.divide(new BigDecimal(2)));
            s.of("Terms", "let its limit be its greatest finite value plus half of the step below it, that is, of its"
                + " distance to the next lower value");
            read(house(f.exponents, f.fractions), plain(limit), 'n', f.infinite, 5);
            read(house(f.exponents, f.fractions), less(limit), 'n', f.greatest, 1);
            s.of("Terms", "By 'n' and 'a' this is so if the amount is at least the limit");
            read(house(f.exponents, f.fractions), plain(limit), 'a', f.infinite, 5);
            read(house(f.exponents, f.fractions), less(limit), 'a', f.greatest, 1);
            s.of("Terms", "by a rounding away from 0, if it is above the greatest finite value");
            read(house(f.exponents, f.fractions), plain(greatest), 'u', f.greatest, 0);
            read(house(f.exponents, f.fractions), plain(greatest) + (greatest.stripTrailingZeros().scale() > 0 ? "1"
                : ".1"), 'u', f.infinite, 5);
            s.of("Terms", "by one toward 0, if it is at least this value plus the whole step");
            for (char rounding : "zd".toCharArray()) {
                Ulphouse x = house(f.exponents, f.fractions);
                read(x, plain(greatest.add(step)), rounding, f.greatest, 5);
                read(x, less(greatest.add(step)), rounding, f.greatest, 1);
                read(x, plain(limit), rounding, f.greatest, 1);
            }
            s.of("Terms", "If, with exponents without an end, it were rounded to an amount above the greatest finite "
                + "one, it overflows: then the answer is infinite by 'n' and 'a', by 'u' for plus and by 'd' for minus, "
                + "otherwise the greatest finite one, with the sign.");
            for (char rounding : "nazud".toCharArray()) {
                boolean isInfinite = rounding != 'z' && rounding != 'd';
                read(house(f.exponents, f.fractions), "9999999", rounding, isInfinite ? f.infinite : f.greatest, 5);
            }
        }
    }

    private void betweens() {
        s.of("Terms", "Rounding. A true result that is finite and not 0 is rounded to the values of a format");
        for (char rounding : "nazud".toCharArray()) {
            Ulphouse z = house(3, 3);
            s.due(z.one(0, 'b', 56, rounding), 56);
            s.due(z.one(0, 'b', 120, rounding), 120);
            s.due(z.two(0, '*', 64, 55, rounding), 64);
            s.due(z.two(0, '*', 55, 0, rounding), 0);
            s.due(z.flags(), 0);
            s.due(z.two(0, '*', 55, 32, rounding), rounding == 'z' || rounding == 'd' ? 55 : 56);
            s.due(z.clearFlags(), 5);
            s.due(z.two(0, '*', 1, 8, rounding), rounding == 'u' ? 1 : 0);
            s.due(z.clearFlags(), 3);
        }
        s.of("Terms", "Even is a code with the lowest bit 0.");
        for (Spec f : Spec.all()) {
            if (f.fractions < 6) {
                midpoints(f);
            }
        }
        s.of("Terms", "Otherwise it is rounded to one of the two values beside it, or is one itself.");
        Ulphouse x = house(3, 3);
        // between 0 and 1/32, between 7/32 and 1/4, between 2 and 9/4; and 1/32, 1/4 and 2 themselves
        between(x, ".001", 0, "00010");
        between(x, ".03", 0, "11010");
        between(x, ".22", 7, "00010");
        between(x, ".2499999", 7, "11010");
        between(x, "2.1", 32, "00010");
        between(x, "2.2", 32, "11010");
        int[] codes = {1, 8, 32};
        String[] texts = {".03125", ".25", "2"};
        for (int i = 0; i < 3; i++) {
            for (char rounding : "nazud".toCharArray()) {
                read(x = house(3, 3), texts[i], rounding, codes[i], 0);
            }
        }
        s.of("Terms", "A result of 0 by rounding keeps the sign.");
        Ulphouse y = house(3, 3);
        for (char rounding : "naz".toCharArray()) {
            s.due(y.two(0, '*', 65, 1, rounding), 64);
            s.due(y.two(0, '*', 65, 65, rounding), 0);
            s.due(y.fused(0, 65, 1, 64, rounding), 64);
        }
        s.due(y.two(0, '/', 65, 55, 'u'), 64);
        s.due(y.two(0, '/', 1, 55, 'd'), 0);
        s.due(y.two(0, '/', 65, 55, 'd'), 65);
        type(y, "-.00000001");
        s.due(y.read(0, 'n'), 64);
        s.due(y.read(0, 'u'), 64);
        s.due(y.read(0, 'd'), 65);
    }

    private void between(Ulphouse x, String text, int below, String ups) {
        for (int i = 0; i < 5; i++) {
            Ulphouse y = house(3, 3);
            int code = below + ups.charAt(i) - '0';
            read(y, text, "nazud".charAt(i), code, below < 8 ? 3 : 1);
        }
    }

    /** Those of a format are values of the one with a bit more. */
    private void midpoints(Spec f) {
        Houses houses = new Houses(f.exponents, f.fractions, f.exponents, f.fractions + 1);
        for (int bare = 0; bare < f.greatest; bare++) {
            Ulphouse x = houses.forCalls(10);
            int middle = 2 * bare + 1;
            int sign = 2 * f.sign;
            String about = f.name() + " above " + bare;
            s.due(about, x.convert(1, middle, 0, 'n'), bare % 2 == 0 ? bare : bare + 1);
            s.due(about, x.convert(1, sign + middle, 0, 'n'), f.minus(bare % 2 == 0 ? bare : bare + 1));
            s.due(about, x.convert(1, middle, 0, 'a'), bare + 1);
            s.due(about, x.convert(1, sign + middle, 0, 'a'), f.minus(bare + 1));
            s.due(about, x.convert(1, middle, 0, 'z'), bare);
            s.due(about, x.convert(1, sign + middle, 0, 'z'), f.minus(bare));
            s.due(about, x.convert(1, middle, 0, 'u'), bare + 1);
            s.due(about, x.convert(1, sign + middle, 0, 'u'), f.minus(bare));
            s.due(about, x.convert(1, middle, 0, 'd'), bare);
            s.due(about, x.convert(1, sign + middle, 0, 'd'), f.minus(bare + 1));
        }
    }

    // ---- flags

    private void flags() {
        s.of("Terms", "There are the flags 1 not exact, 2 underflow, 4 overflow, 8 divided by zero, 16 invalid");
        Ulphouse x = house(3, 3);
        s.due(x.flags(), 0);
        x.two(0, '/', 24, 36, 'n');
        s.due(x.clearFlags(), 1);
        x.two(0, '/', 1, 36, 'n');
        s.due(x.clearFlags(), 1 + 2);
        x.two(0, '*', 55, 55, 'n');
        s.due(x.clearFlags(), 1 + 4);
        x.two(0, '/', 24, 0, 'n');
        s.due(x.clearFlags(), 8);
        x.two(0, '/', 0, 0, 'n');
        s.due(x.clearFlags(), 16);
        s.of("Terms", "all kept till they are cleared");
        x.two(0, '/', 24, 0, 'n');
        x.two(0, '+', 24, 24, 'n');
        s.due(x.flags(), 8);
        x.two(0, '/', 0, 0, 'n');
        s.due(x.flags(), 24);
        x.two(0, '*', 1, 1, 'n');
        s.due(x.flags(), 27);
        x.two(0, '/', 24, 36, 'n');
        s.due(x.flags(), 27);
        x.two(0, '*', 55, 55, 'n');
        s.due(x.flags(), 31);
        s.refused(ARGUMENT, () -> x.two(0, '/', 24, 24, 'x'));
        x.empty();
        x.erase();
        s.due(x.format(2, 2), 1);
        s.due(x.flags(), 31);
        s.due(x.clearFlags(), 31);
        s.due(x.flags(), 0);
        s.of("Terms", "Not exact: the answer is not the true result; overflow raises it, too.");
        x.convert(0, 25, 1, 'n');
        s.due(x.clearFlags(), 1);
        x.convert(0, 26, 1, 'n');
        s.due(x.clearFlags(), 0);
        for (char rounding : "nazud".toCharArray()) {
            x.two(0, '+', 55, 55, rounding);
            s.due(x.clearFlags(), 5);
            x.convert(0, 48, 1, rounding);
            s.due(x.clearFlags(), 5);
        }
    }

    private void underflow() {
        s.of("Terms", "Underflow: not exact, and the amount of the true result is less than 2 to the power of (1 - B).");
        for (Spec f : Spec.all()) {
            BigDecimal edge = new BigDecimal(f.amount(f.leastNormal)).divide(new BigDecimal(4096));
            Ulphouse x = house(f.exponents, f.fractions);
            // rounded to 2 to the power of (1 - B) itself, but from below it
            read(x, plain(edge.subtract(new BigDecimal("0.000001"))).substring(1), 'n', f.leastNormal, 3);
            read(x, plain(edge.subtract(new BigDecimal("0.000001"))).substring(1), 'u', f.leastNormal, 3);
            read(x, plain(edge.add(new BigDecimal("0.000001"))), 'n', f.leastNormal, 1);
            read(x, plain(edge.add(new BigDecimal("0.000001"))), 'd', f.leastNormal, 1);
            read(x, plain(edge), 'd', f.leastNormal, 0);
            x.clearFlags();
            s.due(f.name(), x.two(0, '-', f.leastNormal, 1, 'n'), f.leastNormal - 1);
            s.due("exact below it " + f.name(), x.clearFlags(), 0);
            read(house(f.exponents, f.fractions), ".000001", 'n', 0, 3);
            read(house(f.exponents, f.fractions), ".000001", 'u', 1, 3);
        }
    }

    private void raising() {
        s.of("Terms", "Only the answers of one(), two() and fused(), convert() and read() raise flags.");
        Ulphouse x = house(3, 3, 3, 5);
        type(x, ".1");
        x.add(0, 55);
        x.add(0, 55);
        s.due(x.sum('p', 'n'), 56);
        s.due(x.sum('e', 'n'), 56);
        s.due(x.sum('d', 'n'), 56);
        s.due(x.oneAnew(0, 'i', 0, 'n'), 56);
        s.due(x.oneAnew(0, 'q', 65, 'n'), 60);
        s.due(x.oneAnew(0, 'e', 55, 'n'), 56);
        s.due(x.rest(0, '+', 40, 25), 4);
        s.refused(ARITHMETIC, () -> x.rest(0, '*', 55, 55));
        s.due(x.reduced(0, 24), 81);
        s.due(x.compare(0, 57, 57), 'u');
        s.due(x.polynomial(0, 55, 55, 55, 55, true), 56);
        s.due(x.polynomial(0, 56, 120, 0, 56, true), 60);
        s.holds(x.error(0, 24, 24, 24, 25, true) > 0);
        s.holds(x.line(0, 'q', 24, 47) > 0);
        x.place(0, 'e', 16, 4);
        x.distance(0, 'e', 25);
        x.hardest(0, 'e');
        x.slow(0, 1, 'i');
        x.wrong(0, 1, 'i');
        x.certify(0, 'r', 'n');
        s.holds(x.check(0, 'r', 'n'));
        x.isMonotone(0, 'l', 'n');
        s.holds(x.isTrue());
        x.quarter(0, 55);
        x.cancels(0);
        x.digit(0, 24, 36, 29);
        x.digits(0, 25);
        x.power(0, 25);
        s.due(x.flags(), 0);
        x.one(0, 'q', 32, 'n');
        s.due(x.clearFlags(), 1);
        x.two(0, 'h', 24, 24, 'n');
        s.due(x.clearFlags(), 1);
        x.fused(0, 25, 25, 25, 'n');
        s.due(x.clearFlags(), 1);
        x.convert(1, 97, 0, 'n');
        s.due(x.clearFlags(), 1);
        x.read(0, 'n');
        s.due(x.clearFlags(), 3);
    }

    // ---- promises 1 to 9

    private void promises1To3() {
        Ulphouse x = new Ulphouse();
        s.of("A new object", "Creates a house without formats, with an empty row and text.");
        s.refused(INDEX, () -> x.codes(0));
        s.refused(INDEX, () -> x.add(0, 0));
        s.due(x.empty(), 0);
        s.due(x.erase(), 0);
        s.due(x.flags(), 0);
        s.due(x.certificates(), 0);
        s.holds(x.isTrue());
        s.refused(ELEMENT, () -> x.sum('e', 'n'));
        s.of("format", "Throws `IllegalArgumentException` if a number is out of range");
        int[][] wrong = {{1, 1}, {5, 1}, {2, 0}, {2, 7}, {0, 3}, {3, -1}, {Integer.MIN_VALUE, 3}, {3, Integer.MIN_VALUE},
            {Integer.MAX_VALUE, 3}, {3, Integer.MAX_VALUE}, {1, 7}, {34, 3}, {3, 35}};
        for (int[] bits : wrong) {
            s.refused(ARGUMENT, () -> x.format(bits[0], bits[1]));
        }
        s.of("format", "Tells a format.");
        s.due(x.format(2, 1), 0);
        s.due(x.codes(0), 16);
        s.due(x.format(4, 6), 1);
        s.due(x.codes(1), 2048);
        s.of("format", "Returns its number.");
        s.due(x.format(4, 6), 2);
        s.due(x.format(2, 6), 3);
        s.due(x.format(4, 1), 4);
        s.due(x.format(3, 3), 5);
        s.of("format", "Throws `IllegalStateException` if there are 6");
        s.refused(STATE, () -> x.format(3, 3));
        s.refused(STATE, () -> x.format(2, 1));
        s.refused(ARGUMENT, () -> x.format(1, 1));
        s.of("codes", "Returns how many codes a format has.");
        int[] sizes = {16, 2048, 2048, 512, 64, 128};
        for (int i = 0; i < 6; i++) {
            s.due(x.codes(i), sizes[i]);
        }
        s.of("codes", "Returns how many.");
        s.due(x.codes(5), 128);
        s.of("codes", "Throws `IndexOutOfBoundsException` if there is no such format");
        wrongFormats(6, x::codes);
        wrongFormats(0, new Ulphouse()::codes);
    }

    interface OfNumber {
        long ask(int number);
    }

    private void wrongFormats(int told, OfNumber call) {
        for (int format : new int[] {-1, told, 6, 7, Integer.MIN_VALUE, Integer.MAX_VALUE}) {
            s.refused("format " + format, INDEX, () -> call.ask(format));
        }
    }

    private void wrongCodes(int size, OfNumber call) {
        for (int code : new int[] {-1, size, size + 1, Integer.MIN_VALUE, Integer.MAX_VALUE}) {
            s.refused("code " + code, INDEX, () -> call.ask(code));
        }
    }

    private void promises4To6() {
        Ulphouse x = house(3, 3, 2, 1);
        s.of("value", "Returns the value of a finite code.");
        s.due(x.value(0, 0), 0);
        s.due(x.value(0, 64), 0);
        s.of("value", "Returns the value, in units of 2 to the power of -12.");
        s.due(x.value(0, 1), 128);
        s.due(x.value(0, 55), 15 * 4096);
        s.due(x.value(0, 119), -15 * 4096);
        s.due(x.value(1, 5), 3 * 4096);
        Ulphouse wide = house(4, 6);
        s.due(wide.value(0, 1), 1);
        s.due(wide.value(0, 1025), -1);
        s.due(wide.value(0, 959), 254 * 4096);
        s.of("value", "Throws `IndexOutOfBoundsException` if there is no such format, or no such code of it");
        wrongFormats(2, format -> x.value(format, 0));
        wrongCodes(128, code -> x.value(0, code));
        wrongCodes(16, code -> x.value(1, code));
        s.of("value", "Throws `ArithmeticException` if it is not finite");
        for (int code : new int[] {56, 57, 60, 63, 120, 121, 127}) {
            s.refused(ARITHMETIC, () -> x.value(0, code));
        }
        s.of("kind", "Returns what a code is.");
        s.due(x.kind(1, 5), 'n');
        s.of("kind", "Returns '0' a zero, 's' below 2 to the power of (1 - B) in amount, 'n' other finite ones, "
            + "'i' infinite, 'x' no number.");
        int[] codes = {0, 64, 1, 65, 7, 71, 8, 72, 55, 119, 56, 120, 57, 121, 63, 127};
        String kinds = "00ssssnnnniixxxx";
        for (int i = 0; i < codes.length; i++) {
            s.due(x.kind(0, codes[i]), kinds.charAt(i));
        }
        s.of("kind", "Throws `IndexOutOfBoundsException` if there is no such format, or no such code of it");
        wrongFormats(2, format -> x.kind(format, 0));
        wrongCodes(128, code -> x.kind(0, code));
        promise6(x);
    }

    private void promise6(Ulphouse x) {
        s.of("above", "Returns the next greater code by value.");
        s.due(x.above(0, 7), 8);
        s.due(x.above(0, 72), 71);
        s.due(x.above(0, 120), 119);
        s.of("above", "Returns the code, of a zero the least one above 0, of the greatest finite one infinity, "
            + "of the greatest one below 0 -0.");
        s.due(x.above(0, 0), 1);
        s.due(x.above(0, 64), 1);
        s.due(x.above(0, 55), 56);
        s.due(x.above(0, 65), 64);
        s.due(x.above(1, 9), 8);
        s.due(x.above(1, 5), 6);
        s.of("above", "Throws `IndexOutOfBoundsException` if there is no such format, or no such code of it");
        wrongFormats(2, format -> x.above(format, 0));
        wrongCodes(128, code -> x.above(0, code));
        s.of("above", "Throws `NoSuchElementException` if it is infinite with plus, or no number");
        for (int code : new int[] {56, 57, 60, 63, 121, 124, 127}) {
            s.refused(ELEMENT, () -> x.above(0, code));
        }
    }

    private void promise7() {
        Ulphouse x = house(3, 3, 3, 5, 2, 1, 4, 6);
        s.of("convert", "Converts a code.");
        s.due(x.convert(0, 25, 1, 'n'), 100);
        s.due(x.convert(0, 1, 3, 'n'), 448 - 5 * 64);
        s.due(x.convert(0, 24, 0, 'n'), 24);
        s.due(x.convert(0, 64, 2, 'u'), 8);
        s.due(x.convert(0, 56, 3, 'z'), 960);
        s.due(x.convert(0, 120, 2, 'z'), 14);
        s.due(x.clearFlags(), 0);
        s.due(x.convert(3, 1, 0, 'u'), 1);
        s.due(x.clearFlags(), 3);
        s.due(x.convert(3, 1024 + 959, 0, 'u'), 119);
        s.due(x.clearFlags(), 5);
        s.of("convert", "Returns the code there.");
        s.due(x.convert(0, 32, 2, 'n'), 4);
        s.due(x.convert(2, 4, 0, 'n'), 32);
        s.of("convert", "Throws `IndexOutOfBoundsException` if there is no such format, for either, or no such code");
        wrongFormats(4, format -> x.convert(format, 0, 0, 'n'));
        wrongFormats(4, format -> x.convert(0, 0, format, 'n'));
        wrongCodes(128, code -> x.convert(0, code, 3, 'n'));
        wrongCodes(16, code -> x.convert(2, code, 3, 'n'));
        s.of("convert", "Throws `IllegalArgumentException` if there is no such rounding");
        for (char rounding : new char[] {0, 'N', 'x', 'e', 'o', ' ', 366, 65535}) {
            s.refused(ARGUMENT, () -> x.convert(0, 24, 1, rounding));
            s.refused(ARGUMENT, () -> x.convert(0, 57, 1, rounding));
        }
        s.due(x.flags(), 0);
    }

    private void promises8And9() {
        Ulphouse x = house(3, 3);
        s.of("flags", "Returns the flags.");
        s.due(x.flags(), 0);
        x.two(0, '/', 24, 0, 'n');
        x.two(0, '/', 0, 0, 'n');
        s.of("flags", "Returns their sum.");
        s.due(x.flags(), 24);
        s.due(x.flags(), 24);
        s.of("clearFlags", "Returns their sum before.");
        s.due(x.clearFlags(), 24);
        s.of("clearFlags", "Clears the flags.");
        s.due(x.flags(), 0);
        s.due(x.clearFlags(), 0);
    }
}
