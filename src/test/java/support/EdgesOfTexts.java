import java.math.BigInteger;

/** Texts, certificates and the rest: 'Terms' and the promises 31 to 43. */
final class EdgesOfTexts {
    private static final Class<? extends Exception> INDEX = Sentences.INDEX;
    private static final Class<? extends Exception> ARGUMENT = Sentences.ARGUMENT;
    private static final Class<? extends Exception> STATE = Sentences.STATE;
    private static final Class<? extends Exception> ARITHMETIC = Sentences.ARITHMETIC;
    private static final Class<? extends Exception> ELEMENT = Sentences.ELEMENT;
    private final Sentences s;

    EdgesOfTexts(Sentences s) {
        this.s = s;
    }

    void all() {
        texts();
        roundedTexts();
        shortestTexts();
        promises31And32();
        promise33();
        promises34And35();
        proofs();
        mostProofs();
        promise36();
        promises37And38();
        ways();
        promise39();
        promise40();
        promises41And42();
        promise43();
    }

    /** Of 3 and 3 bits: 24 is 1, 55 is 15, 64 -0; then of 3 and 5 bits: 96 is 1. */
    private static Ulphouse house() {
        Ulphouse x = new Ulphouse();
        x.format(3, 3);
        x.format(3, 5);
        return x;
    }

    private static Ulphouse house(int exponents, int fractions) {
        Ulphouse x = new Ulphouse();
        x.format(exponents, fractions);
        return x;
    }

    private static void type(Ulphouse x, String text) {
        x.erase();
        for (char sign : text.toCharArray()) {
            x.type(sign);
        }
    }

    private interface OfNumber {
        long ask(int number);
    }

    private interface OfSign {
        void ask(char sign);
    }

    private void wrongFormats(OfNumber call) {
        for (int format : new int[] {-1, 2, 6, Integer.MIN_VALUE, Integer.MAX_VALUE}) {
            s.refused("format " + format, INDEX, () -> call.ask(format));
        }
    }

    private void wrongCodes(OfNumber call) {
        for (int code : new int[] {-1, 128, Integer.MIN_VALUE, Integer.MAX_VALUE}) {
            s.refused("code " + code, INDEX, () -> call.ask(code));
        }
    }

    private void wrongFunctions(OfSign call) {
        for (char sign : "+-*/hpnQx \u0000\u0171\uffff".toCharArray()) {
            s.refused("sign " + (int) sign, ARGUMENT, () -> call.ask(sign));
        }
    }

    private void wrongRoundings(OfSign call) {
        for (char sign : "NAeqx \u0000\u016e\uffff".toCharArray()) {
            s.refused("sign " + (int) sign, ARGUMENT, () -> call.ask(sign));
        }
    }

    // ---- texts

    private void texts() {
        s.of("Terms", "A text has at most 10 signs");
        Ulphouse x = house();
        type(x, "1111111111");
        s.refused(STATE, () -> x.type('1'));
        s.refused(STATE, () -> x.type('-'));
        s.refused(STATE, () -> x.type('.'));
        s.due(x.erase(), 10);
        s.of("Terms", "perhaps '-', digits, perhaps '.', and digits, at least one in all.");
        String[] good = {"1", "1.", "1.0", "01", "1.000", ".1", "-1", "-1.", "-.1", "0", "-0", "0.", ".0", "-0.",
            "-.0", "0123456789", "-123456789", "0.00000001", "-.00000001", "999999999.", ".999999999"};
        for (String text : good) {
            type(x, text);
            Ulphouse y = house();
            type(y, text);
            s.holds(text, y.read(0, 'n') >= 0);
        }
        String[] bad = {"", "-", ".", "-.", "--1", "1-", "-1-", "1-1", "1..", "..1", "1.1.", ".1.1", ".-1", "-..1",
            "1.-", "----------", ".........."};
        for (String text : bad) {
            Ulphouse y = house();
            type(y, text);
            for (char rounding : Spec.ROUNDINGS.toCharArray()) {
                s.refused(text, ELEMENT, () -> y.read(0, rounding));
            }
            s.due(text, y.erase(), text.length());
        }
    }

    private void read(int format, String text, int[] codes, int... flags) {
        for (int i = 0; i < 5; i++) {
            Ulphouse x = house();
            type(x, text);
            s.due(text, x.read(format, Spec.ROUNDINGS.charAt(i)), codes[i % codes.length]);
            s.due("flags of " + text, x.flags(), flags[i % flags.length]);
        }
    }

    private static int[] of(int... codes) {
        return codes;
    }

    private void roundedTexts() {
        s.of("Terms", "It is rounded into a format.");
        read(0, "1", of(24), 0);
        read(0, "0000000001", of(24), 0);
        read(0, "1.000", of(24), 0);
        read(1, "1", of(96), 0);
        read(0, "1.1", of(25, 25, 24, 25, 24), 1);
        read(0, "-1.1", of(89, 89, 88, 88, 89), 1);
        // the midpoints above 1 and above 9/8, and just beside
        read(0, "1.0625", of(24, 25, 24, 25, 24), 1);
        read(0, "1.1875", of(26, 26, 25, 26, 25), 1);
        read(0, "1.06250001", of(25, 25, 24, 25, 24), 1);
        read(0, "1.06249999", of(24, 24, 24, 25, 24), 1);
        read(0, ".015625", of(0, 1, 0, 1, 0), 3);
        read(0, ".01562501", of(1, 1, 0, 1, 0), 3);
        read(0, ".00000001", of(0, 0, 0, 1, 0), 3);
        read(0, "-.0000001", of(64, 64, 64, 64, 65), 3);
        read(0, "16", of(56, 56, 55, 56, 55), 5);
        read(0, "-16", of(120, 120, 119, 119, 120), 5);
        read(0, "15.49", of(55, 55, 55, 56, 55), 1, 1, 1, 5, 1);
        read(0, "15.5", of(56, 56, 55, 56, 55), 5, 5, 1, 5, 1);
        read(0, "9999999999", of(56, 56, 55, 56, 55), 5);
        read(0, "-999999999", of(120, 120, 119, 119, 120), 5);
        read(0, "4294967296", of(56, 56, 55, 56, 55), 5);
        read(0, "4294967297", of(56, 56, 55, 56, 55), 5);
        read(0, "2147483648", of(56, 56, 55, 56, 55), 5);
    }

    private void shortest(Ulphouse x, int code, int digits, int power) {
        s.due("digits of " + code, x.digits(0, code), digits);
        s.due("power of " + code, x.power(0, code), power);
        int sign = x.codes(0) / 2;
        s.due("digits of " + (sign + code), x.digits(0, sign + code), -digits);
        s.due("power of " + (sign + code), x.power(0, sign + code), power);
    }

    private void shortestTexts() {
        s.of("Terms", "The shortest text of a finite code that is not 0: of the numbers of fewest digits");
        Ulphouse x = house(3, 3);
        // 1/32 is 0.03, 9/8 is 1.1, 13 and 15 have two digits, 9 just one
        shortest(x, 1, 3, -2);
        shortest(x, 25, 11, -1);
        shortest(x, 53, 13, 0);
        shortest(x, 55, 15, 0);
        shortest(x, 49, 9, 0);
        s.of("Terms", "without zeros at either end, times a power of 10");
        shortest(x, 50, 1, 1);
        shortest(x, 24, 1, 0);
        shortest(x, 16, 5, -1);
        Ulphouse wide = house(4, 6);
        Spec f = new Spec(4, 6);
        shortest(wide, f.code(100), 1, 2);
        shortest(wide, f.code(110), 11, 1);
        shortest(wide, f.code(200), 2, 2);
        shortest(wide, f.code(10), 1, 1);
        shortest(wide, 1, 2, -4);
        shortest(wide, f.greatest, 254, 0);
        s.of("Terms", "that are rounded to it by 'n'");
        // of 3 and 1 bits 12 lies between 8 and the limit of 14: 10 is a midpoint, and goes to 8, which is even
        shortest(house(3, 1), 13, 12, 0);
        shortest(house(3, 1), 12, 8, 0);
        // of 4 and 1 bits 16 and 24 have the midpoint 20, which goes to 16
        shortest(house(4, 1), 22, 2, 1);
        shortest(house(4, 1), 23, 24, 0);
        // 224 is the limit of 192
        shortest(house(4, 1), 29, 2, 2);
        // of 4 and 3 bits 100 is the midpoint of 96 and 104
        shortest(house(4, 3), 108, 1, 2);
        shortest(house(4, 3), 109, 104, 0);
        // of 4 and 2 bits 30 is the midpoint of 28 and 32, 60 that of 56 and 64: both go up, to the even one
        shortest(house(4, 2), 47, 28, 0);
        shortest(house(4, 2), 48, 3, 1);
        shortest(house(4, 2), 51, 56, 0);
        shortest(house(4, 2), 52, 6, 1);
        s.of("Terms", "the one nearest to it, of two the lesser amount.");
        // of 3 and 1 bits 1/4 has the bounds 3/16 and 5/16: 0.2 and 0.3 are as near
        shortest(house(3, 1), 2, 2, -1);
        // 1/8 has 1/16 and 3/16: 0.1 is nearest, 0.07 to 0.09 are not
        shortest(house(3, 1), 1, 1, -1);
        // 3/8 has 5/16 and 7/16, and 0.4 alone
        shortest(house(3, 1), 3, 4, -1);
        // 3/2 has 5/4 and 7/4 with 2 and 1 bits
        shortest(house(2, 1), 3, 15, -1);
        shortest(house(2, 1), 4, 2, 0);
        shortest(house(2, 1), 1, 5, -1);
        // of 4 and 6 bits 2 by 4096 is nearer to 0.0005 than to 0.0004 and 0.0006, which are rounded to it, too
        shortest(wide, 2, 5, -4);
        shortest(wide, 3, 7, -4);
    }

    private void promises31And32() {
        Ulphouse x = house();
        s.of("type", "Returns how many signs the text has.");
        String signs = "-.01239-.8";
        for (int i = 0; i < 10; i++) {
            s.due(x.type(signs.charAt(i)), i + 1);
        }
        s.of("type", "Throws `IllegalStateException` if it has 10");
        s.refused(STATE, () -> x.type('1'));
        s.refused(STATE, () -> x.type('-'));
        s.due(x.erase(), 10);
        s.of("type", "Throws `IllegalArgumentException` if there is no such sign");
        for (char sign : "+,/: eE\u0000aA\u0660\u012e\u0130\uffff".toCharArray()) {
            s.refused("sign " + (int) sign, ARGUMENT, () -> x.type(sign));
        }
        s.due(x.erase(), 0);
        s.of("type", "Types a sign.");
        int[] codes = {0, 24, 32, 36, 40, 42, 44, 46, 48, 49};
        for (int digit = 0; digit < 10; digit++) {
            s.due(x.type((char) ('0' + digit)), 1);
            s.due(x.read(0, 'n'), codes[digit]);
            s.due(x.erase(), 1);
        }
        type(x, "2.5");
        s.due(x.read(0, 'n'), 34);
        s.of("erase", "Empties the text.");
        x.erase();
        s.refused(ELEMENT, () -> x.read(0, 'n'));
        s.due(x.type('3'), 1);
        s.due(x.read(0, 'n'), 36);
        s.of("erase", "Returns how many signs it had.");
        s.due(x.erase(), 1);
        s.due(x.erase(), 0);
        s.due(new Ulphouse().erase(), 0);
    }

    private void promise33() {
        Ulphouse x = house();
        s.of("read", "Rounds the text into a format.");
        type(x, "1.0625");
        s.due(x.read(0, 'n'), 24);
        s.due(x.read(1, 'n'), 98);
        s.due(x.read(0, 'u'), 25);
        s.due(x.erase(), 6);
        s.of("read", "Returns the code, a zero with the sign of the text.");
        String[] zeros = {"0", "00000.0000", ".0", "0.", "-0", "-00000.000", "-.0", "-0."};
        x.clearFlags();
        for (int i = 0; i < 8; i++) {
            type(x, zeros[i]);
            for (char rounding : Spec.ROUNDINGS.toCharArray()) {
                s.due(zeros[i], x.read(0, rounding), i < 4 ? 0 : 64);
            }
        }
        s.due(x.flags(), 0);
        s.of("read", "Throws `IndexOutOfBoundsException` if there is no such format");
        wrongFormats(format -> x.read(format, 'n'));
        s.of("read", "Throws `IllegalArgumentException` if there is no such rounding");
        wrongRoundings(rounding -> x.read(0, rounding));
        s.of("read", "Throws `NoSuchElementException` if the text is none");
        x.erase();
        s.refused(ELEMENT, () -> x.read(0, 'n'));
        s.refused(ELEMENT, () -> house().read(0, 'n'));
        type(x, "-");
        s.refused(ELEMENT, () -> x.read(0, 'n'));
        x.type('1');
        s.due(x.read(0, 'n'), 88);
        x.type('.');
        s.due(x.read(0, 'n'), 88);
        x.type('.');
        s.refused(ELEMENT, () -> x.read(0, 'n'));
        s.due(x.flags(), 0);
    }

    private void promises34And35() {
        Ulphouse x = house();
        s.of("digits", "Returns the digits of the shortest text of a code; it looks.");
        s.due(x.digits(0, 25), 11);
        s.of("digits", "Returns the digits as a whole number, less than 0 for a code below 0.");
        s.due(x.digits(0, 64 + 25), -11);
        s.due(x.digits(0, 65), -3);
        s.due(x.digits(1, 97), 103);
        s.of("power", "Returns the power of 10 of the shortest text of a code; it looks.");
        s.due(x.power(0, 25), -1);
        s.of("power", "Returns the power, by which the digits are multiplied.");
        s.due(x.power(0, 64 + 25), -1);
        s.due(x.power(0, 50), 1);
        s.due(x.power(0, 49), 0);
        s.due(x.power(1, 97), -2);
        s.due(x.flags(), 0);
        s.due(x.erase(), 0);
        s.of("digits", "Throws `IndexOutOfBoundsException` if there is no such format, or no such code of it");
        wrongFormats(format -> x.digits(format, 24));
        wrongCodes(code -> x.digits(0, code));
        s.of("power", "Throws `IndexOutOfBoundsException` if there is no such format, or no such code of it");
        wrongFormats(format -> x.power(format, 24));
        wrongCodes(code -> x.power(0, code));
        for (int code : new int[] {0, 64, 56, 57, 63, 120, 121, 127}) {
            s.of("digits", "Throws `ArithmeticException` if it is not finite, or a zero");
            s.refused(ARITHMETIC, () -> x.digits(0, code));
            s.of("power", "Throws `ArithmeticException` if it is not finite, or a zero");
            s.refused(ARITHMETIC, () -> x.power(0, code));
        }
    }

    // ---- certificates

    private void proofs() {
        s.of("Terms", "A certificate of a function, a format and a rounding is 17, then, for each code by rising codes, 31 "
            + "times itself plus the answer, as longs go round.");
        BigInteger round = BigInteger.ONE.shiftLeft(64);
        for (char function : Spec.SINGLES.toCharArray()) {
            for (char rounding : Spec.ROUNDINGS.toCharArray()) {
                Ulphouse x = house(2, 2);
                Ulphouse y = house(2, 2);
                BigInteger whole = BigInteger.valueOf(17);
                for (int code = 0; code < 32; code++) {
                    whole = whole.multiply(BigInteger.valueOf(31)).add(BigInteger.valueOf(y.one(0, function, code,
                        rounding)));
                }
                s.holds(whole.compareTo(round) > 0);
                s.due(function + " by " + rounding, x.certify(0, function, rounding), whole.longValue());
                s.due(x.flags(), 0);
            }
        }
        // by hand: 2 and 1 bits, inverses to the nearest, 16 codes
        int[] answers = {6, 4, 2, 1, 1, 1, 0, 7, 14, 12, 10, 9, 9, 9, 8, 7};
        long want = 17;
        for (int answer : answers) {
            want = 31 * want + answer;
        }
        s.due(house(2, 1).certify(0, 'i', 'n'), want);
    }

    private void mostProofs() {
        s.of("Terms", "At most 12 are kept by function, format and rounding.");
        Ulphouse x = house();
        x.format(3, 3);
        int kept = 0;
        for (char rounding : Spec.ROUNDINGS.toCharArray()) {
            for (int format : new int[] {0, 2}) {
                x.certify(format, 'e', rounding);
                s.due(x.certificates(), ++kept);
            }
        }
        x.certify(0, 'l', 'n');
        x.certify(0, 's', 'n');
        s.due(x.certificates(), 12);
        s.refused(STATE, () -> x.certify(0, 'c', 'n'));
        s.refused(STATE, () -> x.certify(1, 'e', 'n'));
        s.refused(STATE, () -> x.certify(0, 'l', 'z'));
        s.due(x.certify(0, 'e', 'd'), x.certify(2, 'e', 'd'));
        s.due(x.certificates(), 12);
        s.holds(x.check(2, 'e', 'z'));
        s.holds(x.isTrue());
    }

    private void promise36() {
        Ulphouse x = house();
        s.of("certify", "Makes a certificate, or gives that which is kept; it looks.");
        long made = x.certify(0, 'q', 'n');
        s.due(x.certificates(), 1);
        s.due(x.certify(0, 'q', 'n'), made);
        s.due(x.certificates(), 1);
        s.due(x.flags(), 0);
        s.of("certify", "Returns the certificate.");
        s.holds(x.certify(0, 'q', 'u') != made);
        s.due(x.certify(0, 'q', 'n'), made);
        s.due(house().certify(0, 'q', 'n'), made);
        s.of("certify", "Throws `IndexOutOfBoundsException` if there is no such format");
        wrongFormats(format -> x.certify(format, 'q', 'n'));
        s.of("certify", "Throws `IllegalArgumentException` if there is no such function or rounding, or the format has more "
            + "than 512 codes");
        wrongFunctions(function -> x.certify(0, function, 'n'));
        wrongRoundings(rounding -> x.certify(0, 'q', rounding));
        for (Spec f : Spec.all()) {
            Ulphouse y = house(f.exponents, f.fractions);
            if (f.size() > 512) {
                s.refused(f.name(), ARGUMENT, () -> y.certify(0, 'q', 'n'));
                s.due(f.name(), y.certificates(), 0);
            } else {
                y.certify(0, 'q', 'n');
                s.due(f.name(), y.certificates(), 1);
                s.holds(f.name(), y.check(0, 'q', 'n'));
            }
        }
        s.of("certify", "Throws `IllegalStateException` if 12 are kept, and not this one");
        Ulphouse z = house();
        for (char function : "qb".toCharArray()) {
            for (char rounding : Spec.ROUNDINGS.toCharArray()) {
                z.certify(0, function, rounding);
            }
        }
        z.certify(0, 'i', 'n');
        z.certify(0, 'i', 'a');
        s.refused(STATE, () -> z.certify(0, 'i', 'z'));
        s.refused(STATE, () -> z.certify(1, 'i', 'a'));
        s.due(z.certify(0, 'q', 'n'), made);
        z.certify(0, 'i', 'a');
        s.due(z.certificates(), 12);
    }

    private void promises37And38() {
        Ulphouse x = house();
        s.of("check", "Throws `NoSuchElementException` if it is not kept");
        s.refused(ELEMENT, () -> x.check(0, 's', 'n'));
        x.certify(0, 's', 'n');
        s.refused(ELEMENT, () -> x.check(0, 's', 'a'));
        s.refused(ELEMENT, () -> x.check(0, 'c', 'n'));
        s.refused(ELEMENT, () -> x.check(1, 's', 'n'));
        // what can't be certified is not kept, either
        s.refused(ELEMENT, () -> house(4, 6).check(0, 's', 'n'));
        s.of("check", "Checks a certificate by the other way.");
        s.holds(x.check(0, 's', 'n'));
        s.of("check", "Returns whether it holds.");
        for (char function : Spec.SINGLES.toCharArray()) {
            x.certify(1, function, 'u');
            s.holds(x.check(1, function, 'u'));
            s.holds(x.check(1, function, 'u'));
        }
        s.due(x.flags(), 0);
        s.of("check", "Throws `IndexOutOfBoundsException` if there is no such format");
        wrongFormats(format -> x.check(format, 's', 'n') ? 1 : 0);
        s.of("check", "Throws `IllegalArgumentException` if there is no such function or rounding");
        wrongFunctions(function -> x.check(0, function, 'n'));
        wrongRoundings(rounding -> x.check(0, 's', rounding));
        s.of("certificates", "Returns how many certificates are kept.");
        s.due(x.certificates(), 9);
        s.of("certificates", "Returns how many.");
        s.due(house().certificates(), 0);
        s.due(new Ulphouse().certificates(), 0);
    }

    // ---- ways, and the rest

    private void ways() {
        s.of("isMonotone", "Returns whether a function is monotone over all codes that are finite with finite answers, by "
            + "rising or by falling values, alike answers allowed, as rounded; it looks.");
        for (Spec f : Spec.all()) {
            Ulphouse x = house(f.exponents, f.fractions);
            for (char rounding : Spec.ROUNDINGS.toCharArray()) {
                for (char function : "qberl".toCharArray()) {
                    s.holds(f.name() + function + rounding, x.isMonotone(0, function, rounding));
                }
                // inverses fall, rise at 0, and fall; sines and cosines go up and down
                for (char function : "isc".toCharArray()) {
                    s.holds(f.name() + function + rounding, !x.isMonotone(0, function, rounding));
                }
            }
            s.due(x.flags(), 0);
        }
    }

    private void promise39() {
        Ulphouse x = house();
        s.of("isMonotone", "Returns whether it is.");
        s.holds(x.isMonotone(0, 'r', 'n'));
        s.holds(!x.isMonotone(0, 'i', 'n'));
        s.of("isMonotone", "Throws `IndexOutOfBoundsException` if there is no such format");
        wrongFormats(format -> x.isMonotone(format, 'q', 'n') ? 1 : 0);
        s.of("isMonotone", "Throws `IllegalArgumentException` if there is no such function or rounding");
        wrongFunctions(function -> x.isMonotone(0, function, 'n'));
        wrongRoundings(rounding -> x.isMonotone(0, 'q', rounding));
    }

    private void promise40() {
        s.of("floatBits", "Returns the bits of a finite value as a float, as Float.floatToIntBits tells it.");
        for (Spec f : Spec.all()) {
            for (int bare = 0; bare < f.infinite; bare++) {
                float amount = f.amount(bare) / 4096f;
                Ulphouse x = f.house();
                s.due(f.name() + bare, x.floatBits(0, bare), Float.floatToIntBits(amount));
                s.due(f.name() + f.minus(bare), x.floatBits(0, f.minus(bare)), Float.floatToIntBits(-amount));
            }
        }
        Ulphouse x = house();
        s.of("floatBits", "Returns the bits, -0 with its sign.");
        s.due(x.floatBits(0, 64), Integer.MIN_VALUE);
        s.due(x.floatBits(0, 0), 0);
        s.of("floatBits", "Throws `IndexOutOfBoundsException` if there is no such format, or no such code of it");
        wrongFormats(format -> x.floatBits(format, 24));
        wrongCodes(code -> x.floatBits(0, code));
        s.of("floatBits", "Throws `ArithmeticException` if it is not finite");
        for (int code : new int[] {56, 57, 63, 120, 121, 127}) {
            s.refused(ARITHMETIC, () -> x.floatBits(0, code));
        }
    }

    private void promises41And42() {
        Ulphouse x = house();
        for (Spec f : Spec.all()) {
            float share = (float) (2 * f.infinite) / (float) f.size();
            s.of("finiteShare", "Returns the share of the codes of a format that are finite.");
            s.holds(f.name(), f.house().finiteShare(0) == 1f - 1f / (1 << f.exponents));
            s.of("finiteShare", "Returns their number divided by that of all codes, both converted to float.");
            s.holds(f.name(), f.house().finiteShare(0) == share);
            long sum = 0;
            for (int bare = 0; bare < f.infinite; bare++) {
                sum += f.amount(bare);
            }
            s.of("meanValue", "Returns the mean of the finite values of a format that are not below 0, -0 left out.");
            s.holds(f.name(), f.house().meanValue(0) == (double) sum / (double) f.infinite / 4096.0);
        }
        s.of("meanValue", "Returns the sum of the values, in units of 2 to the power of -12, divided by their number, both "
            + "converted to double, and by 4096.0.");
        // 0, 1/2, 1, 3/2, 2 and 3 are 8, of six values; with +0, without -0
        s.holds(house(2, 1).meanValue(0) == 32768.0 / 6.0 / 4096.0);
        s.holds(x.meanValue(0) == 3.25);
        s.of("finiteShare", "Throws `IndexOutOfBoundsException` if there is no such format");
        wrongFormats(format -> (long) x.finiteShare(format));
        s.of("meanValue", "Throws `IndexOutOfBoundsException` if there is no such format");
        wrongFormats(format -> (long) x.meanValue(format));
    }

    private void promise43() {
        s.of("isTrue", "Checks that what was kept of answers is found by the other way, too, and that all certificates "
            + "hold.");
        s.holds(new Ulphouse().isTrue());
        Ulphouse x = house();
        x.format(4, 6);
        s.holds(x.isTrue());
        for (char function : Spec.SINGLES.toCharArray()) {
            for (int code = 0; code < 64; code += 7) {
                x.one(0, function, code, 'n');
                x.one(2, function, 960 + code, 'd');
                x.one(2, function, code * 8, 'u');
            }
            x.hardest(2, function);
            s.holds(x.isTrue());
            x.certify(1, function, 'a');
            s.holds(x.isTrue());
        }
        s.of("isTrue", "Returns whether all of it holds.");
        s.holds(x.isTrue());
        s.holds(x.clearFlags() > 0);
        s.holds(x.isTrue());
        s.due(x.flags(), 0);
        s.due(x.certificates(), 8);
    }
}
