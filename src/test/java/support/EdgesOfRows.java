/** Sums and products in two parts, rows and digits of quotients: 'Terms' and the promises 15 to 19. */
final class EdgesOfRows {
    private static final Class<? extends Exception> INDEX = Sentences.INDEX;
    private static final Class<? extends Exception> ARGUMENT = Sentences.ARGUMENT;
    private static final Class<? extends Exception> STATE = Sentences.STATE;
    private static final Class<? extends Exception> ARITHMETIC = Sentences.ARITHMETIC;
    private static final Class<? extends Exception> ELEMENT = Sentences.ELEMENT;
    private final Sentences s;

    EdgesOfRows(Sentences s) {
        this.s = s;
    }

    void all() {
        twoParts();
        promise15();
        full();
        otherFormat();
        plainly();
        carefully();
        exactly();
        dots();
        promises16And17();
        promise18();
        digits();
        promise19();
    }

    /** Of 3 and 3 bits: 24 is 1, 48 is 8 with steps of 1 above, 55 is 15; then of 3 and 5 bits, 96 is 1. */
    private static Ulphouse house() {
        Ulphouse x = new Ulphouse();
        x.format(3, 3);
        x.format(3, 5);
        return x;
    }

    private static Ulphouse row(int... codes) {
        Ulphouse x = house();
        for (int code : codes) {
            x.add(0, code);
        }
        return x;
    }

    private void sums(char how, int[] dues, int... codes) {
        Ulphouse x = row(codes);
        for (int i = 0; i < 5; i++) {
            char rounding = Spec.ROUNDINGS.charAt(i);
            String about = how + " by " + rounding + " of " + java.util.Arrays.toString(codes);
            s.due(about, x.sum(how, rounding), dues[i % dues.length]);
        }
        s.due(x.flags(), 0);
        s.due(x.empty(), codes.length);
    }

    private static int[] of(int... codes) {
        return codes;
    }

    // ---- in two parts

    private void twoParts() {
        s.of("Terms", "The sum of two finite codes, rounded by 'n', and what is lacking to the true sum, which is "
            + "always a value");
        for (Spec f : new Spec[] {new Spec(2, 1), new Spec(2, 3), new Spec(3, 2), new Spec(4, 1)}) {
            for (int a = 0; a < f.size(); a++) {
                for (int b = 0; b < f.size(); b++) {
                    if (a % f.sign < f.infinite && b % f.sign < f.infinite) {
                        sumInTwoParts(f, a, b);
                    }
                }
            }
        }
        s.of("Terms", "likewise for products, whose rest can be no value.");
        Ulphouse x = house();
        // 9/4 squared is 81/16: 5 and 1/16; 9/8 squared is 81/64: 5/4 and 1/64, which is no value
        s.due(x.rest(0, '*', 33, 33), 2);
        s.due(x.rest(0, '*', 97, 33), 66);
        s.refused(ELEMENT, () -> x.rest(0, '*', 25, 25));
        s.refused(ELEMENT, () -> x.rest(0, '*', 1, 1));
        s.due(x.flags(), 0);
    }

    private void sumInTwoParts(Spec f, int a, int b) {
        Ulphouse x = f.house();
        int near = x.two(0, '+', a, b, 'n');
        String about = f.name() + " " + a + " + " + b;
        if (near % f.sign >= f.infinite) {
            s.refused(about, ARITHMETIC, () -> x.rest(0, '+', a, b));
        } else {
            int rest = x.rest(0, '+', a, b);
            int lacking = x.value(0, a) + x.value(0, b) - x.value(0, near);
            s.due(about, x.value(0, rest), lacking);
            s.holds(about, lacking != 0 || rest == 0);
        }
    }

    private void promise15() {
        Ulphouse x = house();
        s.of("rest", "Returns what is lacking of a sum, or a product, rounded by 'n'; it looks.");
        s.due(x.rest(0, '+', 48, 8), 8);
        s.due(x.rest(0, '+', 49, 16), 80);
        s.due(x.rest(0, '*', 33, 33), 2);
        s.due(x.flags(), 0);
        s.of("rest", "Returns the code of the rest, +0 for none.");
        for (int[] pair : new int[][] {{0, 0}, {64, 64}, {0, 64}, {24, 24}, {24, 88}, {88, 88}}) {
            s.due(x.rest(0, '+', pair[0], pair[1]), 0);
            s.due(x.rest(0, '*', pair[0], pair[1]), 0);
        }
        s.due(x.rest(0, '*', 64, 55), 0);
        s.due(x.rest(0, '+', 55, 64 + 55), 0);
        s.of("rest", "Throws `IndexOutOfBoundsException` if there is no such format, or no such code, for either");
        wrongFormats(format -> x.rest(format, '+', 24, 24));
        wrongCodes(code -> x.rest(0, '+', code, 24));
        wrongCodes(code -> x.rest(0, '+', 24, code));
        s.of("rest", "Throws `IllegalArgumentException` if there is no such function");
        for (char function : "-/hpqnx\u0000\u012b\uffff".toCharArray()) {
            s.refused(ARGUMENT, () -> x.rest(0, function, 24, 24));
        }
        s.of("rest", "Throws `ArithmeticException` if a code, or the rounded result, is not finite");
        for (int code : new int[] {56, 57, 63, 120, 121, 127}) {
            for (char function : "+*".toCharArray()) {
                s.refused(ARITHMETIC, () -> x.rest(0, function, code, 24));
                s.refused(ARITHMETIC, () -> x.rest(0, function, 0, code));
            }
        }
        // 15 and 1/2 is the limit; 7.5 times 2 is 15, 8 times 2 is 16
        s.refused(ARITHMETIC, () -> x.rest(0, '+', 55, 16));
        s.due(x.rest(0, '+', 55, 15), 15);
        s.refused(ARITHMETIC, () -> x.rest(0, '*', 48, 32));
        s.due(x.rest(0, '*', 47, 32), 0);
        s.of("rest", "Throws `NoSuchElementException` if the rest is no value");
        s.refused(ELEMENT, () -> x.rest(0, '*', 25, 89));
        s.refused(ELEMENT, () -> x.rest(0, '*', 65, 1));
        s.due(x.flags(), 0);
    }

    // ---- rows

    private void full() {
        s.of("Terms", "A row has at most 20 codes of a format");
        Ulphouse x = house();
        for (int i = 1; i <= 20; i++) {
            s.due(x.add(0, 8), i);
        }
        s.refused(STATE, () -> x.add(0, 8));
        s.due(x.sum('e', 'n'), 42);
        s.due(x.empty(), 20);
        s.due(x.add(0, 8), 1);
        s.due(x.sum('e', 'n'), 8);
    }

    private void otherFormat() {
        s.of("Terms", "it is emptied as the format is another one.");
        Ulphouse x = house();
        for (int i = 0; i < 20; i++) {
            x.add(0, 24);
        }
        s.due(x.add(1, 96), 1);
        s.due(x.sum('e', 'n'), 96);
        s.due(x.add(1, 96), 2);
        s.due(x.sum('e', 'n'), 128);
        s.due(x.add(0, 28), 1);
        s.due(x.sum('e', 'n'), 28);
        s.due(x.add(0, 24), 2);
        s.due(x.empty(), 2);
        s.due(x.add(1, 96), 1);
        // a call that is refused is of no other format
        s.refused(INDEX, () -> x.add(0, 128));
        s.refused(INDEX, () -> x.add(2, 0));
        s.due(x.empty(), 1);
    }

    private void plainly() {
        s.of("Terms", "Plainly: from +0 on, each is added, rounded by 'n'.");
        sums('p', of(0), 64);
        sums('p', of(0), 64, 64);
        sums('p', of(88), 88);
        sums('p', of(0), 24, 88);
        // a quarter beside 8 is lost, each time; ahead of it they count
        sums('p', of(48), 48, 8, 8, 8, 8);
        sums('p', of(49), 8, 8, 8, 8, 48);
        sums('p', of(56), 55, 55, 119);
        sums('p', of(120), 119, 119, 55, 55, 55);
    }

    private void carefully() {
        s.of("Terms", "With care: with a sum and a rest, both +0");
        sums('c', of(0), 64);
        sums('c', of(0), 64, 64, 64);
        sums('c', of(0), 24, 88);
        sums('c', of(88), 88);
        s.of("Terms", "each code a makes t the sum of sum and a");
        sums('c', of(24), 24);
        sums('c', of(52), 24, 32, 36, 40, 32);
        sums('c', of(16), 24, 80);
        s.of("Terms", "if the amount of the sum is at least that of a, the rest becomes the rest plus ((sum less t) "
            + "plus a)");
        sums('c', of(49), 48, 8, 8, 8);
        sums('c', of(48), 48, 8);
        sums('c', of(50), 48, 16, 16, 16);
        s.of("Terms", "otherwise plus ((a less t) plus sum), each operation rounded by 'n'");
        sums('c', of(49), 8, 48, 8, 8);
        sums('c', of(112 + 1), 72, 112, 72, 72);
        s.of("Terms", "amounts are those of the codes.");
        // 8 below 0 is less than a quarter, but its amount is not
        sums('c', of(64 + 46), 112, 8, 8, 8);
        sums('c', of(46), 48, 72, 72, 72);
        s.of("Terms", "then the sum is t; at last, the sum plus the rest.");
        sums('c', of(49), 48, 8, 8, 8, 8);
        sums('c', of(16), 55, 8, 119, 8);
        s.of("Terms", "A t that is not finite is the answer at once");
        sums('c', of(56), 55, 55);
        sums('c', of(56), 55, 55, 119);
        sums('c', of(120), 119, 119, 55, 55, 55);
        sums('c', of(56), 48, 47, 16);
    }

    private void exactly() {
        s.of("Terms", "Exactly: the true sum, rounded once; a sum of 0 is +0, by 'd' -0.");
        sums('e', of(49, 49, 48, 49, 48), 48, 8, 8, 8);
        sums('e', of(48, 49, 48, 49, 48), 48, 8, 8);
        sums('e', of(112, 113, 112, 112, 113), 112, 72, 72);
        sums('e', of(0, 0, 0, 0, 64), 24, 88);
        sums('e', of(0, 0, 0, 0, 64), 64);
        sums('e', of(0, 0, 0, 0, 64), 0);
        sums('e', of(0, 0, 0, 0, 64), 64, 64);
        sums('e', of(55), 55, 55, 119);
        sums('e', of(1), 55, 55, 119, 119, 1);
        sums('e', of(56, 56, 55, 56, 55), 55, 16);
        sums('e', of(56, 56, 55, 56, 55), 55, 55, 55, 55, 55, 55, 55, 55, 55, 55, 55, 55, 55, 55, 55, 55, 55, 55, 55,
            55);
    }

    private void dots() {
        s.of("Terms", "The exact dot is that of codes in pairs, the first one times the second one and so on; a last one "
            + "alone does not count.");
        sums('d', of(44), 32, 36);
        sums('d', of(44), 32, 36, 55);
        sums('d', of(48), 32, 36, 40, 16);
        sums('d', of(51), 32, 40, 36, 24);
        sums('d', of(0, 0, 0, 0, 64), 55);
        sums('d', of(0, 0, 0, 0, 64), 24, 0);
        sums('d', of(0, 0, 0, 0, 64), 64, 24);
        sums('d', of(0, 0, 0, 0, 64), 32, 36, 100, 32);
        // each square of 1/32 alone would be 0, or 1/32; eight of them are an exact 1/128
        sums('d', of(0, 0, 0, 1, 0), 1, 1, 1, 1, 1, 1, 1, 1, 1, 1, 1, 1, 1, 1, 1, 1);
        sums('d', of(0, 1, 0, 1, 0), 1, 16);
        sums('d', of(1), 1, 16, 1, 16);
        sums('d', of(24), 55, 55, 119, 55, 24, 24);
        // what a longer row left behind does not count, either
        Ulphouse x = row(32, 36, 40, 48);
        x.empty();
        x.add(0, 24);
        s.due(x.sum('d', 'n'), 0);
        x.add(0, 24);
        x.add(0, 55);
        s.due(x.sum('d', 'n'), 24);
    }

    private void promises16And17() {
        Ulphouse x = house();
        s.of("add", "Puts a code behind the row.");
        // pairs tell the order: 2 times 3 and 1 times 8
        x.add(0, 32);
        x.add(0, 36);
        x.add(0, 24);
        x.add(0, 48);
        s.due(x.sum('d', 'n'), 54);
        s.of("add", "Returns how many the row has.");
        s.due(x.add(0, 56), 5);
        s.due(x.add(0, 127), 6);
        s.due(x.add(1, 0), 1);
        s.of("add", "Throws `IndexOutOfBoundsException` if there is no such format, or no such code of it");
        wrongFormats(format -> x.add(format, 0));
        wrongCodes(code -> x.add(0, code));
        s.refused(INDEX, () -> x.add(1, 512));
        s.due(x.add(1, 511), 2);
        s.of("add", "Throws `IllegalStateException` if it has 20 of this format");
        Ulphouse y = house();
        for (int i = 1; i <= 20; i++) {
            s.due(y.add(1, 96), i);
        }
        s.refused(STATE, () -> y.add(1, 96));
        s.refused(STATE, () -> y.add(1, 0));
        s.refused(INDEX, () -> y.add(1, 512));
        s.due(y.add(0, 24), 1);
        s.of("empty", "Empties the row.");
        s.due(x.empty(), 2);
        s.due(x.sum('e', 'u'), 0);
        s.of("empty", "Returns how many there were.");
        s.due(x.empty(), 0);
        s.due(new Ulphouse().empty(), 0);
        s.due(y.empty(), 1);
        for (int i = 0; i < 20; i++) {
            y.add(0, 24);
        }
        s.due(y.empty(), 20);
        s.due(y.empty(), 0);
        s.due(y.add(0, 24), 1);
    }

    private void promise18() {
        s.of("sum", "Adds the row; it looks.");
        Ulphouse x = row(24, 24, 32);
        for (char how : "pce".toCharArray()) {
            s.due(x.sum(how, 'n'), 40);
            s.due(x.sum(how, 'n'), 40);
        }
        s.due(x.sum('d', 'n'), 24);
        s.due(x.empty(), 3);
        s.due(x.flags(), 0);
        s.of("sum", "Returns the code of the sum, of an empty row +0, or, exactly and of dots by 'd', -0.");
        for (int i = 0; i < 5; i++) {
            char rounding = Spec.ROUNDINGS.charAt(i);
            s.due(x.sum('p', rounding), 0);
            s.due(x.sum('c', rounding), 0);
            s.due(x.sum('e', rounding), rounding == 'd' ? 64 : 0);
            s.due(x.sum('d', rounding), rounding == 'd' ? 64 : 0);
        }
        x.add(1, 96);
        x.empty();
        s.due(x.sum('e', 'd'), 256);
        s.of("sum", "Throws `IllegalArgumentException` if there is no such way or rounding");
        for (char sign : "xPCED\u0000\u0170\uffff".toCharArray()) {
            s.refused(ARGUMENT, () -> x.sum(sign, 'n'));
            s.refused(ARGUMENT, () -> x.sum('e', sign));
            s.refused(ARGUMENT, () -> x.sum('p', sign));
            s.refused(ARGUMENT, () -> x.sum('c', sign));
        }
        s.of("sum", "Throws `NoSuchElementException` if no format was told for the row");
        Ulphouse y = house();
        for (char how : "pced".toCharArray()) {
            s.refused(ELEMENT, () -> y.sum(how, 'n'));
        }
        s.due(y.empty(), 0);
        s.refused(INDEX, () -> y.add(0, 128));
        s.refused(ELEMENT, () -> y.sum('e', 'n'));
        s.refused(ELEMENT, () -> new Ulphouse().sum('p', 'n'));
        s.of("sum", "Throws `ArithmeticException` if the row has a code that is not finite");
        for (int code : new int[] {56, 57, 63, 120, 121, 127}) {
            for (char how : "pced".toCharArray()) {
                s.refused(ARITHMETIC, () -> row(code, 24).sum(how, 'n'));
                s.refused(ARITHMETIC, () -> row(24, 24, code).sum(how, 'n'));
                s.refused(ARITHMETIC, () -> row(55, 55, code).sum(how, 'n'));
            }
        }
        Ulphouse z = row(56);
        z.empty();
        s.due(z.sum('e', 'n'), 0);
    }

    // ---- digits

    private void digits() {
        s.of("Terms", "Digits. For two finite codes that are not 0");
        for (int code : new int[] {0, 64, 56, 120, 57, 127}) {
            s.refused(ARITHMETIC, () -> house().digit(0, code, 24, 0));
            s.refused(ARITHMETIC, () -> house().digit(0, 24, code, 0));
        }
        s.due(house().digit(0, 1, 65, 0), 1);
        s.due(house().digit(0, 55, 119, 0), 1);
        s.of("Terms", "Each digit of the quotient, from the index 0 on");
        s.due(house().digit(0, 24, 28, 0), 1);
        s.due(house().digit(0, 24, 28, 1), 0);
        s.refused(INDEX, () -> house().digit(0, 24, 28, -1));
        for (Spec f : Spec.all()) {
            int zero = 0;
            s.of("Terms", "both are brought by powers of 2 to w, less than a half and at least a quarter, and v, less "
                + "than 1 and at least a half, signs aside.");
            for (int code : new int[] {f.one, f.code(2), f.code(0.5), 1, f.minus(f.one), f.minus(1)}) {
                quotient(f, code, f.one, 1, zero);
                quotient(f, f.one, code, 1, zero);
                quotient(f, code, code, 1, zero);
            }
            quotient(f, f.greatest, f.minus(f.greatest), 1, zero);
            s.of("Terms", "1 if 2 w is at least a half; -1 if 2 w is less than minus a half; otherwise 0; then w becomes "
                + "2 w less the digit times v.");
            // w is a quarter, v 3/4: then w is -1/4, twice that is just minus a half, and so on
            Ulphouse x = f.house();
            int[] dues = {1, 0, -1, 0, -1, 0, -1};
            for (int i = 0; i < 7; i++) {
                s.due(f.name() + " 1 by 3/2, index " + i, x.digit(0, f.one, f.code(1.5), i), dues[i]);
            }
            s.due(f.name(), x.digit(0, f.one, f.code(1.5), 28), -1);
            s.due(f.name(), x.digit(0, f.one, f.code(1.5), 29), 0);
            // w is 3/8, v 1/2: 3/4 less 1/2 is 1/4, twice that is just a half
            quotient(f, f.code(1.5), f.one, 1, 1);
        }
    }

    /** The first two digits; all behind these are 0. */
    private void quotient(Spec f, int code, int other, int first, int second) {
        Ulphouse x = f.house();
        String about = f.name() + " " + code + " by " + other;
        s.due(about, x.digit(0, code, other, 0), first);
        s.due(about, x.digit(0, code, other, 1), second);
        for (int index = 2; index < 30; index++) {
            s.due(about, x.digit(0, code, other, index), 0);
        }
    }

    private void promise19() {
        Ulphouse x = house();
        s.of("digit", "Returns a digit of a quotient.");
        s.due(x.digit(0, 24, 28, 2), -1);
        s.of("digit", "Returns the digit, -1, 0 or 1.");
        s.due(x.digit(0, 24, 28, 0), 1);
        s.due(x.digit(0, 24, 28, 1), 0);
        s.due(x.digit(0, 88, 92, 2), -1);
        s.of("digit", "Throws `IndexOutOfBoundsException` if there is no such format, or no such code, for either, or "
            + "no such index");
        wrongFormats(format -> x.digit(format, 24, 24, 0));
        wrongCodes(code -> x.digit(0, code, 24, 0));
        wrongCodes(code -> x.digit(0, 24, code, 0));
        for (int index : new int[] {-1, 30, 31, 64, Integer.MIN_VALUE, Integer.MAX_VALUE}) {
            s.refused(INDEX, () -> x.digit(0, 24, 24, index));
        }
        s.due(x.digit(0, 24, 24, 29), 0);
        s.of("digit", "Throws `ArithmeticException` if a code is not finite, or a zero");
        for (int code : new int[] {0, 64, 56, 57, 63, 120, 121, 127}) {
            s.refused(ARITHMETIC, () -> x.digit(0, code, 24, 0));
            s.refused(ARITHMETIC, () -> x.digit(0, 24, code, 29));
        }
        s.due(x.flags(), 0);
    }

    // ---- what is refused

    private interface OfNumber {
        long ask(int number);
    }

    private void wrongFormats(OfNumber call) {
        for (int format : new int[] {-1, 2, 6, Integer.MIN_VALUE, Integer.MAX_VALUE}) {
            s.refused("format " + format, INDEX, () -> call.ask(format));
        }
    }

    private void wrongCodes(OfNumber call) {
        for (int code : new int[] {-1, 128, Integer.MIN_VALUE, Integer.MAX_VALUE}) {
            s.refused("code " + code, INDEX, () -> call.ask(code));
        }
    }
}
