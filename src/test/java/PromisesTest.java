import java.lang.reflect.Method;
import java.lang.reflect.Modifier;
import java.util.NoSuchElementException;
import java.util.Set;
import java.util.TreeSet;

/** Each promise by its number: ordinary inputs, the edges that the document names, and wrong inputs. */
public final class PromisesTest {
    private static final Class<? extends Exception> INDEX = IndexOutOfBoundsException.class;
    private static final Class<? extends Exception> ARGUMENT = IllegalArgumentException.class;
    private static final Class<? extends Exception> STATE = IllegalStateException.class;
    private static final Class<? extends Exception> ARITHMETIC = ArithmeticException.class;
    private static final Class<? extends Exception> ELEMENT = NoSuchElementException.class;
    private static final int[] WRONG_FORMATS = {-1, 2, 6, Integer.MIN_VALUE, Integer.MAX_VALUE};
    private static final char[] WRONG_SIGNS = {0, 'N', 'x', '0', 366, 65535};

    private final Tally tally = new Tally();
    private int promise;

    private interface Call {
        void run();
    }

    public static void main(String[] args) throws Exception {
        PromisesTest test = new PromisesTest();
        for (int i = 1; i <= 43; i++) {
            test.promise = i;
            PromisesTest.class.getDeclaredMethod("promise" + i).invoke(test);
        }
        test.face();
        test.tally.close("PromisesTest");
    }

    // ---- means

    /** Format 0 has 3 and 3 bits: 56 is infinite, 60 no number, 24 is 1. Format 1 has 3 and 5 bits: 96 is 1. */
    private static Ulphouse house() {
        Ulphouse house = new Ulphouse();
        house.format(3, 3);
        house.format(3, 5);
        return house;
    }

    private void due(long got, long want) {
        tally.due("promise " + promise + ":", got, want);
    }

    private void holds(boolean isSo) {
        due(isSo ? 1 : 0, 1);
    }

    private void due(Class<? extends Exception> kind, Call call) {
        Class<?> got = null;
        try {
            call.run();
        } catch (Exception e) {
            got = e.getClass();
        }
        tally.holds("promise " + promise + ": threw " + got + ", due is " + kind, got == kind);
    }

    private interface OfFormat {
        void run(int format);
    }

    private void wrongFormats(OfFormat call) {
        for (int format : WRONG_FORMATS) {
            due(INDEX, () -> call.run(format));
        }
    }

    /** Codes that format 0 does not have. */
    private void wrongCodes(OfFormat call) {
        for (int code : new int[] {-1, 128, Integer.MIN_VALUE, Integer.MAX_VALUE}) {
            due(INDEX, () -> call.run(code));
        }
    }

    private interface OfSign {
        void run(char sign);
    }

    private void wrongSigns(OfSign call) {
        for (char sign : WRONG_SIGNS) {
            due(ARGUMENT, () -> call.run(sign));
        }
    }

    private void type(Ulphouse house, String text) {
        house.erase();
        for (char sign : text.toCharArray()) {
            house.type(sign);
        }
    }

    private void fill(Ulphouse house, int... codes) {
        house.empty();
        for (int code : codes) {
            house.add(0, code);
        }
    }

    // ---- formats and flags

    private void promise1() {
        Ulphouse x = new Ulphouse();
        due(x.flags(), 0);
        due(x.clearFlags(), 0);
        due(x.empty(), 0);
        due(x.erase(), 0);
        due(x.certificates(), 0);
        holds(x.isTrue());
        due(INDEX, () -> x.codes(0));
        due(ELEMENT, () -> x.sum('e', 'n'));
        due(x.format(2, 1), 0);
        due(ELEMENT, () -> x.read(0, 'n'));
    }

    private void promise2() {
        Ulphouse x = new Ulphouse();
        int[][] wrong = {{1, 3}, {5, 3}, {3, 0}, {3, 7}, {-1, -1}, {Integer.MAX_VALUE, Integer.MIN_VALUE}};
        for (int[] bits : wrong) {
            due(ARGUMENT, () -> x.format(bits[0], bits[1]));
        }
        for (int i = 0; i < 6; i++) {
            due(x.format(i % 3 + 2, i + 1), i);
        }
        due(STATE, () -> x.format(2, 1));
        due(ARGUMENT, () -> x.format(1, 1));
        due(x.codes(5), 1 << 1 + 4 + 6);
        Ulphouse y = new Ulphouse();
        due(y.format(3, 3), 0);
        due(y.format(3, 3), 1);
    }

    private void promise3() {
        Ulphouse x = house();
        due(x.codes(0), 128);
        due(x.codes(1), 512);
        wrongFormats(x::codes);
    }

    private void promise4() {
        Ulphouse x = house();
        due(x.value(0, 0), 0);
        due(x.value(0, 64), 0);
        due(x.value(0, 1), 128);
        due(x.value(0, 65), -128);
        due(x.value(0, 24), 4096);
        due(x.value(0, 55), 15 * 4096);
        due(x.value(0, 119), -15 * 4096);
        due(ARITHMETIC, () -> x.value(0, 56));
        due(ARITHMETIC, () -> x.value(0, 57));
        due(ARITHMETIC, () -> x.value(0, 120));
        wrongFormats(format -> x.value(format, 0));
        wrongCodes(code -> x.value(0, code));
    }

    private void promise5() {
        Ulphouse x = house();
        int[] codes = {0, 64, 1, 7, 71, 8, 72, 55, 119, 56, 120, 57, 63, 121, 127};
        String kinds = "00sssnnnniixxxx";
        for (int i = 0; i < codes.length; i++) {
            due(x.kind(0, codes[i]), kinds.charAt(i));
        }
        wrongFormats(format -> x.kind(format, 0));
        wrongCodes(code -> x.kind(0, code));
    }

    private void promise6() {
        Ulphouse x = house();
        int[][] pairs = {{0, 1}, {64, 1}, {7, 8}, {55, 56}, {65, 64}, {66, 65}, {120, 119}, {119, 118}};
        for (int[] pair : pairs) {
            due(x.above(0, pair[0]), pair[1]);
        }
        for (int code : new int[] {56, 57, 63, 121, 127}) {
            due(ELEMENT, () -> x.above(0, code));
        }
        wrongFormats(format -> x.above(format, 0));
        wrongCodes(code -> x.above(0, code));
    }

    private void promise7() {
        Ulphouse x = house();
        due(x.convert(0, 25, 1, 'n'), 100);
        due(x.convert(0, 89, 1, 'd'), 256 + 100);
        due(x.convert(0, 64, 1, 'u'), 256);
        due(x.convert(0, 56, 1, 'z'), 224);
        due(x.convert(0, 120, 1, 'z'), 480);
        due(x.convert(0, 127, 1, 'z'), 240);
        due(x.clearFlags(), 0);
        // 1 and 1/16 lies between 1 and 1 and 1/8
        due(x.convert(1, 98, 0, 'n'), 24);
        due(x.convert(1, 98, 0, 'a'), 25);
        due(x.convert(1, 98, 0, 'u'), 25);
        due(x.convert(1, 98, 0, 'z'), 24);
        due(x.convert(1, 256 + 98, 0, 'u'), 88);
        due(x.clearFlags(), 1);
        due(x.convert(1, 1, 0, 'n'), 0);
        due(x.convert(1, 257, 0, 'n'), 64);
        due(x.clearFlags(), 3);
        due(x.convert(1, 223, 0, 'n'), 56);
        due(x.convert(1, 223, 0, 'z'), 55);
        due(x.clearFlags(), 5);
        wrongFormats(format -> x.convert(format, 0, 0, 'n'));
        wrongFormats(format -> x.convert(0, 0, format, 'x'));
        wrongCodes(code -> x.convert(0, code, 1, 'x'));
        wrongSigns(sign -> x.convert(0, 0, 1, sign));
        due(x.flags(), 0);
    }

    private void promise8() {
        Ulphouse x = house();
        due(x.flags(), 0);
        x.two(0, '*', 25, 25, 'n');
        due(x.flags(), 1);
        x.two(0, '*', 1, 1, 'n');
        due(x.flags(), 3);
        x.two(0, '/', 24, 0, 'n');
        due(x.flags(), 11);
        x.one(0, 'q', 65, 'n');
        due(x.flags(), 27);
        x.fused(0, 55, 55, 0, 'n');
        due(x.flags(), 31);
        due(x.flags(), 31);
    }

    private void promise9() {
        Ulphouse x = house();
        x.one(0, 'i', 0, 'n');
        due(x.clearFlags(), 8);
        due(x.clearFlags(), 0);
        due(x.flags(), 0);
        x.one(0, 's', 56, 'n');
        due(x.flags(), 16);
        // these look, and raise nothing
        x.clearFlags();
        x.oneAnew(0, 'i', 0, 'n');
        x.rest(0, '+', 1, 55);
        x.add(0, 55);
        x.add(0, 55);
        x.sum('e', 'n');
        x.reduced(0, 55);
        x.hardest(0, 'e');
        x.slow(0, 1, 'e');
        x.line(0, 'e', 0, 23);
        x.polynomial(0, 55, 55, 55, 55, true);
        x.certify(0, 'l', 'n');
        x.check(0, 'l', 'n');
        x.isMonotone(0, 'i', 'n');
        x.isTrue();
        due(x.flags(), 0);
    }

    // ---- functions

    private void promise10() {
        Ulphouse x = house();
        one(x, 'q', new int[] {0, 0, 64, 64, 24, 24, 40, 32, 56, 56, 57, 60, 127, 60}, 0);
        one(x, 'q', new int[] {65, 60, 120, 60}, 16);
        one(x, 'b', new int[] {0, 0, 64, 64, 48, 32, 112, 96, 56, 56, 120, 120, 121, 60}, 0);
        one(x, 'i', new int[] {24, 24, 32, 16, 96, 80, 56, 0, 120, 64}, 0);
        one(x, 'i', new int[] {0, 56, 64, 120}, 8);
        one(x, 'r', new int[] {24, 24, 40, 16, 8, 32, 56, 0}, 0);
        one(x, 'r', new int[] {0, 56, 64, 120}, 8);
        one(x, 'r', new int[] {65, 60, 120, 60}, 16);
        one(x, 'e', new int[] {0, 24, 64, 24, 24, 32, 88, 16, 56, 56, 120, 0}, 0);
        one(x, 'l', new int[] {24, 0, 32, 24, 16, 88, 56, 56}, 0);
        one(x, 'l', new int[] {0, 120, 64, 120}, 8);
        one(x, 'l', new int[] {65, 60, 120, 60}, 16);
        one(x, 's', new int[] {0, 0, 64, 64, 24, 0, 88, 64, 16, 24, 80, 88, 55, 0, 119, 64}, 0);
        one(x, 's', new int[] {56, 60, 120, 60}, 16);
        one(x, 'c', new int[] {0, 24, 64, 24, 24, 88, 88, 88, 16, 0, 80, 0, 32, 24}, 0);
        one(x, 'c', new int[] {56, 60, 120, 60}, 16);
        // 2 to the power of 1/2 lies between 11/8 and 12/8
        due(x.one(0, 'e', 16, 'n'), 27);
        due(x.one(0, 'e', 16, 'a'), 27);
        due(x.one(0, 'e', 16, 'z'), 27);
        due(x.one(0, 'e', 16, 'd'), 27);
        due(x.one(0, 'e', 16, 'u'), 28);
        due(x.clearFlags(), 1);
        // 2 to the power of 4 is 16, the greatest finite value is 15
        for (char rounding : Oracle.ROUNDINGS.toCharArray()) {
            due(x.one(0, 'e', 40, rounding), rounding == 'z' || rounding == 'd' ? 55 : 56);
            due(x.clearFlags(), 5);
            // and to that of -15 it is far below the least one
            due(x.one(0, 'e', 119, rounding), rounding == 'u' ? 1 : 0);
            due(x.clearFlags(), 3);
        }
        wrongFormats(format -> x.one(format, 'q', 0, 'n'));
        wrongCodes(code -> x.one(0, 'x', code, 'x'));
        wrongSigns(sign -> x.one(0, sign, 0, 'n'));
        wrongSigns(sign -> x.one(0, 'q', 0, sign));
        due(ARGUMENT, () -> x.one(0, '+', 0, 'n'));
        due(x.flags(), 0);
    }

    private void one(Ulphouse x, char function, int[] pairs, int flags) {
        for (int i = 0; i < pairs.length; i += 2) {
            due(x.one(0, function, pairs[i], 'n'), pairs[i + 1]);
            due(x.clearFlags(), flags);
        }
    }

    private void promise11() {
        Ulphouse x = house();
        int one = 24;
        two(x, "+", new int[] {one, one, 32, 0, 0, 0, 64, 64, 64, 0, 64, 0, one, 88, 0, 56, 119, 56, 57, 56, 60}, 0);
        two(x, "+", new int[] {56, 120, 60, 120, 56, 60}, 16);
        two(x, "-", new int[] {one, one, 0, 64, 0, 64, 0, 64, 0, 0, 0, 0, 56, 120, 56}, 0);
        two(x, "-", new int[] {56, 56, 60, 120, 120, 60}, 16);
        two(x, "*", new int[] {32, 96, 104, 0, 88, 64, 56, 88, 120, 120, 120, 56, 57, 0, 60}, 0);
        two(x, "*", new int[] {56, 0, 60, 64, 56, 60}, 16);
        two(x, "/", new int[] {32, 96, 88, 0, 88, 64, 88, 56, 64, 56, 0, 56, 56, 64, 120, 56, 88, 120}, 0);
        two(x, "/", new int[] {24, 0, 56, 24, 64, 120, 88, 0, 120}, 8);
        two(x, "/", new int[] {0, 0, 60, 56, 56, 60, 64, 0, 60, 120, 56, 60}, 16);
        two(x, "h", new int[] {36, 40, 42, 0, 64, 0, 64, 64, 0, 88, 0, 24, 56, 57, 56, 57, 120, 56, 57, 0, 60}, 0);
        promise11Powers(x);
        due(x.two(0, '+', 24, 88, 'd'), 64);
        due(x.two(0, '+', 0, 0, 'd'), 0);
        due(x.two(0, '-', 0, 0, 'd'), 64);
        due(x.clearFlags(), 0);
        due(x.two(0, '+', 55, 16, 'n'), 56);
        due(x.two(0, '+', 55, 9, 'n'), 55);
        due(x.two(0, '+', 119, 80, 'u'), 119);
        due(x.clearFlags(), 5);
        wrongFormats(format -> x.two(format, '+', 0, 0, 'n'));
        wrongCodes(code -> x.two(0, 'x', code, 0, 'x'));
        wrongCodes(code -> x.two(0, 'x', 0, code, 'x'));
        wrongSigns(sign -> x.two(0, sign, 0, 0, 'n'));
        wrongSigns(sign -> x.two(0, '+', 0, 0, sign));
        due(ARGUMENT, () -> x.two(0, 'q', 0, 0, 'n'));
        due(x.flags(), 0);
    }

    private void promise11Powers(Ulphouse x) {
        // 36 is 3, 100 is -3, 16 is a half, 96 is -2, 32 is 2, 88 is -1, 20 is 3/4
        two(x, "p", new int[] {57, 0, 24, 57, 64, 24, 24, 57, 24, 24, 120, 24, 0, 0, 24, 56, 64, 24}, 0);
        two(x, "p", new int[] {57, 24, 60, 32, 57, 60, 88, 57, 60, 88, 56, 24, 88, 120, 24}, 0);
        two(x, "p", new int[] {32, 56, 56, 32, 120, 0, 96, 56, 56, 16, 56, 0, 16, 120, 56, 80, 120, 56}, 0);
        two(x, "p", new int[] {0, 56, 0, 64, 56, 0, 0, 120, 56, 64, 120, 56, 56, 56, 56, 120, 120, 0}, 0);
        two(x, "p", new int[] {64, 36, 64, 0, 36, 0, 64, 32, 0, 64, 16, 0}, 0);
        two(x, "p", new int[] {64, 100, 120, 0, 100, 56, 64, 96, 56, 64, 80, 56}, 8);
        two(x, "p", new int[] {120, 36, 120, 120, 32, 56, 120, 100, 64, 120, 96, 0, 56, 16, 56, 120, 16, 56}, 0);
        two(x, "p", new int[] {96, 36, 112, 96, 32, 40, 40, 16, 32, 33, 16, 28, 88, 36, 88, 88, 32, 24}, 0);
        two(x, "p", new int[] {96, 16, 60, 88, 80, 60}, 16);
    }

    private void two(Ulphouse x, String function, int[] triples, int flags) {
        for (int i = 0; i < triples.length; i += 3) {
            due(x.two(0, function.charAt(0), triples[i], triples[i + 1], 'n'), triples[i + 2]);
            due(x.clearFlags(), flags);
        }
    }

    private void promise12() {
        Ulphouse x = house();
        due(x.fused(0, 32, 36, 88, 'n'), 42);
        // 9/8 times 9/8 less 10/8 is 1/64: the rounded product would leave 0
        due(x.fused(0, 25, 25, 90, 'n'), 0);
        due(x.fused(0, 25, 25, 90, 'a'), 1);
        due(x.clearFlags(), 3);
        due(x.fused(0, 24, 24, 88, 'n'), 0);
        due(x.fused(0, 24, 24, 88, 'd'), 64);
        due(x.fused(0, 0, 64, 64, 'n'), 64);
        due(x.fused(0, 0, 64, 0, 'n'), 0);
        due(x.fused(0, 0, 64, 0, 'd'), 64);
        due(x.fused(0, 56, 88, 24, 'n'), 120);
        due(x.fused(0, 24, 24, 120, 'n'), 120);
        due(x.fused(0, 56, 24, 56, 'n'), 56);
        due(x.fused(0, 56, 0, 57, 'n'), 60);
        due(x.fused(0, 57, 0, 0, 'n'), 60);
        due(x.clearFlags(), 0);
        due(x.fused(0, 56, 0, 24, 'n'), 60);
        due(x.clearFlags(), 16);
        due(x.fused(0, 56, 24, 120, 'n'), 60);
        due(x.clearFlags(), 16);
        due(x.fused(0, 55, 55, 119, 'z'), 55);
        due(x.clearFlags(), 5);
        wrongFormats(format -> x.fused(format, 0, 0, 0, 'n'));
        wrongCodes(code -> x.fused(0, code, 0, 0, 'x'));
        wrongCodes(code -> x.fused(0, 0, code, 0, 'x'));
        wrongCodes(code -> x.fused(0, 0, 0, code, 'x'));
        wrongSigns(sign -> x.fused(0, 0, 0, 0, sign));
        due(x.flags(), 0);
    }

    private void promise13() {
        Ulphouse x = house();
        for (char function : Oracle.SINGLES.toCharArray()) {
            for (int code : new int[] {0, 64, 1, 65, 16, 24, 55, 119, 56, 120, 57}) {
                for (char rounding : Oracle.ROUNDINGS.toCharArray()) {
                    due(x.oneAnew(0, function, code, rounding), house().one(0, function, code, rounding));
                }
            }
        }
        due(x.flags(), 0);
        wrongFormats(format -> x.oneAnew(format, 'q', 0, 'n'));
        wrongCodes(code -> x.oneAnew(0, 'x', code, 'x'));
        Ulphouse y = house();
        wrongSigns(sign -> y.oneAnew(0, sign, 0, 'n'));
        wrongSigns(sign -> y.oneAnew(0, 'q', 0, sign));
    }

    private void promise14() {
        Ulphouse x = house();
        int[] codes = {0, 64, 1, 24, 55, 56, 119, 120, 57};
        double[] values = {0, 0, 0.03125, 1, 15, 1e9, -15, -1e9, 0};
        for (int i = 0; i < 9; i++) {
            for (int k = 0; k < 9; k++) {
                boolean isNone = i == 8 || k == 8;
                char due = isNone ? 'u' : values[i] < values[k] ? 'l' : values[i] > values[k] ? 'g' : 'e';
                due(x.compare(0, codes[i], codes[k]), due);
            }
        }
        wrongFormats(format -> x.compare(format, 0, 0));
        wrongCodes(code -> x.compare(0, code, 0));
        wrongCodes(code -> x.compare(0, 0, code));
    }

    // ---- in two parts, rows, digits

    private void promise15() {
        Ulphouse x = house();
        due(x.rest(0, '+', 40, 25), 4);
        due(x.rest(0, '+', 24, 24), 0);
        due(x.rest(0, '+', 64, 64), 0);
        due(x.rest(0, '*', 64, 24), 0);
        due(x.rest(0, '*', 28, 28), 0);
        due(x.rest(0, '*', 33, 33), 2);
        due(x.rest(0, '*', 97, 33), 66);
        due(ELEMENT, () -> x.rest(0, '*', 25, 25));
        due(ELEMENT, () -> x.rest(0, '*', 9, 9));
        due(ARITHMETIC, () -> x.rest(0, '+', 56, 0));
        due(ARITHMETIC, () -> x.rest(0, '*', 0, 57));
        due(ARITHMETIC, () -> x.rest(0, '*', 55, 55));
        due(ARITHMETIC, () -> x.rest(0, '+', 119, 119));
        due(x.flags(), 0);
        wrongFormats(format -> x.rest(format, '+', 0, 0));
        wrongCodes(code -> x.rest(0, 'x', code, 56));
        wrongCodes(code -> x.rest(0, 'x', 56, code));
        wrongSigns(sign -> x.rest(0, sign, 56, 0));
        due(ARGUMENT, () -> x.rest(0, '-', 56, 0));
        due(ARGUMENT, () -> x.rest(0, 'h', 56, 0));
    }

    private void promise16() {
        Ulphouse x = house();
        for (int i = 1; i <= 20; i++) {
            due(x.add(0, 56), i);
        }
        due(STATE, () -> x.add(0, 0));
        due(INDEX, () -> x.add(0, 128));
        due(x.add(1, 96), 1);
        due(x.add(1, 96), 2);
        due(x.sum('e', 'n'), 128);
        due(x.add(0, 24), 1);
        due(x.sum('e', 'n'), 24);
        wrongFormats(format -> x.add(format, 0));
        wrongCodes(code -> x.add(0, code));
        due(x.empty(), 1);
    }

    private void promise17() {
        Ulphouse x = house();
        due(x.empty(), 0);
        fill(x, 24, 24, 24);
        due(x.empty(), 3);
        due(x.empty(), 0);
        due(x.sum('e', 'n'), 0);
        due(x.add(0, 32), 1);
        due(x.sum('p', 'n'), 32);
    }

    private void promise18() {
        Ulphouse x = house();
        due(ARGUMENT, () -> x.sum('x', 'n'));
        due(ARGUMENT, () -> x.sum('e', 'x'));
        due(ELEMENT, () -> x.sum('e', 'n'));
        // 8 and four times 1/4: each quarter is lost by itself
        fill(x, 48, 8, 8, 8, 8);
        due(x.sum('p', 'u'), 48);
        due(x.sum('c', 'd'), 49);
        due(x.sum('e', 'n'), 49);
        fill(x, 24, 88);
        due(x.sum('p', 'd'), 0);
        due(x.sum('e', 'd'), 64);
        due(x.sum('e', 'u'), 0);
        fill(x, 64, 64);
        due(x.sum('e', 'n'), 0);
        due(x.sum('p', 'n'), 0);
        due(x.sum('d', 'd'), 64);
        // 2 times 3, and a last one alone
        fill(x, 32, 36, 55);
        due(x.sum('d', 'n'), 44);
        fill(x, 25, 25);
        due(x.sum('d', 'n'), 26);
        due(x.sum('d', 'u'), 27);
        fill(x, 55, 55, 119);
        due(x.sum('p', 'n'), 56);
        due(x.sum('c', 'n'), 56);
        due(x.sum('e', 'n'), 55);
        fill(x);
        for (char rounding : Oracle.ROUNDINGS.toCharArray()) {
            due(x.sum('p', rounding), 0);
            due(x.sum('c', rounding), 0);
            due(x.sum('e', rounding), rounding == 'd' ? 64 : 0);
            due(x.sum('d', rounding), rounding == 'd' ? 64 : 0);
        }
        fill(x, 24, 24, 56);
        for (char how : "pced".toCharArray()) {
            due(ARITHMETIC, () -> x.sum(how, 'n'));
        }
        wrongSigns(sign -> x.sum(sign, 'n'));
        wrongSigns(sign -> x.sum('e', sign));
        due(x.flags(), 0);
    }

    private void promise19() {
        Ulphouse x = house();
        // 1 by 3/2: w is 1/4 and v is 3/4
        int[] digits = {1, 0, -1, 0, -1, 0, -1, 0};
        int[] got = new int[8];
        for (int i = 0; i < 8; i++) {
            got[i] = x.digit(0, 24, 28, i);
            due(x.digit(0, 88, 52, i), got[i]);
        }
        for (int i = 0; i < 3; i++) {
            due(got[i], digits[i]);
        }
        due(x.digit(0, 1, 120 - 1, 0), x.digit(0, 24, 55, 0));
        due(x.digit(0, 24, 24, 0), 1);
        due(x.digit(0, 24, 24, 29), 0);
        due(INDEX, () -> x.digit(0, 0, 0, -1));
        due(INDEX, () -> x.digit(0, 0, 0, 30));
        due(INDEX, () -> x.digit(0, 24, 24, Integer.MIN_VALUE));
        due(ARITHMETIC, () -> x.digit(0, 0, 24, 0));
        due(ARITHMETIC, () -> x.digit(0, 24, 64, 0));
        due(ARITHMETIC, () -> x.digit(0, 56, 24, 0));
        due(ARITHMETIC, () -> x.digit(0, 24, 57, 0));
        wrongFormats(format -> x.digit(format, 24, 24, 0));
        wrongCodes(code -> x.digit(0, code, 24, 0));
        wrongCodes(code -> x.digit(0, 24, code, 0));
    }

    // ---- reducing, hard cases, quick answers

    private void promise20() {
        Ulphouse x = house();
        int[][] quarters = {{0, 0}, {64, 0}, {1, 0}, {16, 0}, {24, 1}, {88, -1}, {36, 2}, {55, 10}, {119, -10}};
        for (int[] pair : quarters) {
            due(x.quarter(0, pair[0]), pair[1]);
        }
        due(ARITHMETIC, () -> x.quarter(0, 56));
        due(ARITHMETIC, () -> x.quarter(0, 57));
        wrongFormats(format -> x.quarter(format, 0));
        wrongCodes(code -> x.quarter(0, code));
    }

    private void promise21() {
        Ulphouse x = house();
        due(x.reduced(0, 0), 0);
        due(x.reduced(0, 64), 64);
        due(x.reduced(0, 16), 16);
        // 1 less 1.5707 is -0.5707, which lies next to -9/16
        due(x.reduced(0, 24), 64 + 17);
        due(x.reduced(0, 88), 17);
        // 13/8 less 1.5707 is 0.0542, which lies next to 2/32
        due(x.reduced(0, 29), 2);
        due(x.flags(), 0);
        due(ARITHMETIC, () -> x.reduced(0, 56));
        due(ARITHMETIC, () -> x.reduced(0, 121));
        wrongFormats(format -> x.reduced(format, 0));
        wrongCodes(code -> x.reduced(0, code));
    }

    private void promise22() {
        Ulphouse x = house();
        due(x.format(3, 2), 2);
        due(x.format(2, 1), 3);
        due(x.cancels(1), 204);
        due(x.cancels(2), 14);
        due(x.cancels(3), 3);
        due(INDEX, () -> x.cancels(4));
        due(INDEX, () -> x.cancels(-1));
    }

    private void promise23() {
        Ulphouse x = new Ulphouse();
        x.format(3, 2);
        x.format(3, 5);
        x.format(2, 1);
        due(x.hardest(0, 'e'), 3);
        due(x.hardest(0, 's'), 3);
        due(x.hardest(1, 'b'), 46);
        due(x.hardest(2, 'q'), 5);
        due(x.flags(), 0);
        due(INDEX, () -> x.hardest(3, 'x'));
        due(INDEX, () -> x.hardest(-1, 'q'));
        wrongSigns(sign -> x.hardest(0, sign));
        none(x);
    }

    /** Whether there is none at all is what the other way tells. */
    private void none(Ulphouse x) {
        Oracle oracle = new Oracle(2, 1);
        for (char function : Oracle.SINGLES.toCharArray()) {
            int count = 0;
            for (int code = 0; code < oracle.size(); code++) {
                count += oracle.gap(function, code) >= 0 ? 1 : 0;
            }
            if (count == 0) {
                due(ELEMENT, () -> x.hardest(2, function));
            }
        }
    }

    private void promise24() {
        Ulphouse x = new Ulphouse();
        x.format(3, 2);
        x.format(3, 5);
        due(x.distance(0, 'e', 13), 16831);
        due(x.distance(0, 'q', 16), 10279);
        due(x.distance(0, 'q', 18), 28062);
        for (int code : new int[] {0, 32, 12, 28, 29, 33, 60}) {
            due(ELEMENT, () -> x.distance(0, 'q', code));
        }
        // of -15 the result lies below all normal values
        due(ELEMENT, () -> x.distance(0, 'e', 59));
        due(ELEMENT, () -> x.distance(0, 'e', 27));
        due(ELEMENT, () -> x.distance(0, 's', 12));
        due(INDEX, () -> x.distance(2, 'x', 0));
        due(INDEX, () -> x.distance(0, 'x', 64));
        due(INDEX, () -> x.distance(0, 'x', -1));
        wrongSigns(sign -> x.distance(0, sign, 0));
    }

    private void promise25() {
        Ulphouse x = new Ulphouse();
        x.format(3, 2);
        x.format(3, 5);
        x.format(4, 5);
        due(x.slow(0, 1, 'e'), 7);
        due(x.slow(0, 1, 'l'), 6);
        due(x.flags(), 0);
        quickArguments(x::slow);
    }

    private interface Quick {
        int run(int format, int wide, char function);
    }

    private void quickArguments(Quick call) {
        due(ARGUMENT, () -> call.run(1, 0, 'e'));
        due(ARGUMENT, () -> call.run(0, 0, 'e'));
        due(ARGUMENT, () -> call.run(0, 2, 'e'));
        due(INDEX, () -> call.run(3, 0, 'x'));
        due(INDEX, () -> call.run(0, 3, 'x'));
        due(INDEX, () -> call.run(0, -1, 'e'));
        wrongSigns(sign -> call.run(0, 1, sign));
    }

    private void promise26() {
        Ulphouse x = new Ulphouse();
        x.format(3, 2);
        x.format(3, 5);
        x.format(4, 5);
        due(x.wrong(0, 1, 'e'), 1);
        due(x.wrong(0, 1, 'l'), 0);
        due(x.flags(), 0);
        quickArguments(x::wrong);
    }

    // ---- tables, lines, polynomials

    private void promise27() {
        Ulphouse x = new Ulphouse();
        x.format(3, 2);
        x.format(3, 5);
        due(x.place(0, 'e', 13, 4), 9);
        due(x.place(0, 'l', 14, 16), 13);
        due(x.place(0, 'q', 18, 0), 18);
        due(ELEMENT, () -> x.place(0, 'i', 12, 0));
        due(ELEMENT, () -> x.place(0, 'e', 40, 0));
        due(ELEMENT, () -> x.place(0, 'e', 63, 16));
        due(ARGUMENT, () -> x.place(0, 'e', 0, -1));
        due(ARGUMENT, () -> x.place(0, 'e', 0, 17));
        due(INDEX, () -> x.place(2, 'x', 0, 17));
        due(INDEX, () -> x.place(0, 'x', 64, 17));
        due(INDEX, () -> x.place(0, 'e', -1, 0));
        wrongSigns(sign -> x.place(0, sign, 0, 0));
    }

    private void promise28() {
        Ulphouse x = new Ulphouse();
        x.format(3, 2);
        x.format(3, 5);
        due(x.line(0, 'q', 12, 20), 1048576);
        due(x.line(0, 'e', 12, 12), 0);
        due(x.line(0, 'e', 12, 13), 0);
        due(x.line(0, 'b', 0, 0), 0);
        due(x.line(1, 'i', 96, 96 + 23), x.line(1, 'i', 256 + 96, 256 + 96 + 23));
        due(x.flags(), 0);
        due(ARITHMETIC, () -> x.line(0, 'i', 0, 3));
        due(ARITHMETIC, () -> x.line(0, 'e', 26, 30));
        due(ARGUMENT, () -> x.line(0, 'i', 0, 24));
        due(ARGUMENT, () -> x.line(0, 'i', 1, 0));
        due(INDEX, () -> x.line(2, 'x', 0, 0));
        due(INDEX, () -> x.line(0, 'x', 64, 64));
        due(INDEX, () -> x.line(0, 'x', 63, 64));
        due(INDEX, () -> x.line(0, 'e', -1, 0));
        wrongSigns(sign -> x.line(0, sign, 0, 0));
    }

    private void promise29() {
        Ulphouse x = house();
        // 1 + 2 times 3/2 + 3 times 9/4 is 10 and 3/4
        due(x.polynomial(0, 24, 32, 36, 28, true), 51);
        due(x.polynomial(0, 24, 32, 36, 28, false), 51);
        due(x.polynomial(0, 0, 0, 0, 57, true), 60);
        due(x.polynomial(0, 24, 0, 0, 56, false), 60);
        // by the second scheme the square overflows
        due(x.polynomial(0, 0, 0, 1, 48, true), 32);
        due(x.polynomial(0, 0, 0, 1, 48, false), 56);
        due(x.flags(), 0);
        wrongFormats(format -> x.polynomial(format, 0, 0, 0, 0, true));
        wrongCodes(code -> x.polynomial(0, code, 0, 0, 0, true));
        wrongCodes(code -> x.polynomial(0, 0, code, 0, 0, false));
        wrongCodes(code -> x.polynomial(0, 0, 0, code, 0, true));
        wrongCodes(code -> x.polynomial(0, 0, 0, 0, code, false));
    }

    private void promise30() {
        Ulphouse x = house();
        due(x.error(0, 24, 32, 36, 28, true), 1L << 34);
        due(x.error(0, 24, 32, 36, 28, false), 1L << 34);
        due(x.error(0, 0, 0, 1, 48, true), 0);
        due(x.error(0, 24, 0, 0, 24, true), 0);
        due(ARITHMETIC, () -> x.error(0, 0, 0, 1, 48, false));
        due(ARITHMETIC, () -> x.error(0, 57, 0, 0, 0, true));
        due(ARITHMETIC, () -> x.error(0, 0, 56, 0, 0, true));
        due(ARITHMETIC, () -> x.error(0, 0, 0, 120, 0, true));
        due(ARITHMETIC, () -> x.error(0, 0, 0, 0, 127, true));
        wrongFormats(format -> x.error(format, 0, 0, 0, 0, true));
        wrongCodes(code -> x.error(0, code, 56, 0, 0, true));
        wrongCodes(code -> x.error(0, 56, code, 0, 0, true));
        wrongCodes(code -> x.error(0, 56, 0, code, 0, true));
        wrongCodes(code -> x.error(0, 56, 0, 0, code, true));
    }

    // ---- texts and certificates

    private void promise31() {
        Ulphouse x = house();
        String signs = "-.01239-78";
        for (int i = 0; i < 10; i++) {
            due(x.type(signs.charAt(i)), i + 1);
        }
        due(STATE, () -> x.type('1'));
        for (char sign : new char[] {'+', ' ', '/', ':', 'e', 0, 304, 65535}) {
            due(ARGUMENT, () -> x.type(sign));
        }
        due(x.erase(), 10);
        due(x.type('5'), 1);
    }

    private void promise32() {
        Ulphouse x = house();
        due(x.erase(), 0);
        type(x, "123");
        due(x.read(0, 'n'), 56);
        due(x.erase(), 3);
        due(x.erase(), 0);
        due(ELEMENT, () -> x.read(0, 'n'));
    }

    private void promise33() {
        Ulphouse x = house();
        String[] texts = {"1", "-1", "1.", ".5", "-.5", "00001.5000", "0", "-0", "-.0", "0.", "15", "1.25"};
        int[] codes = {24, 88, 24, 16, 80, 28, 0, 64, 64, 0, 55, 26};
        for (int i = 0; i < texts.length; i++) {
            type(x, texts[i]);
            for (char rounding : Oracle.ROUNDINGS.toCharArray()) {
                due(x.read(0, rounding), codes[i]);
            }
            due(x.clearFlags(), 0);
        }
        rounded(x, "1.1", new int[] {25, 25, 24, 25, 24}, 1);
        rounded(x, "1.0625", new int[] {24, 25, 24, 25, 24}, 1);
        rounded(x, "-1.0625", new int[] {88, 89, 88, 88, 89}, 1);
        rounded(x, ".01", new int[] {0, 0, 0, 1, 0}, 3);
        rounded(x, "-.015625", new int[] {64, 65, 64, 64, 65}, 3);
        rounded(x, "15.4", new int[] {55, 55, 55, 56, 55}, 5);
        rounded(x, "15.5", new int[] {56, 56, 55, 56, 55}, 5);
        rounded(x, "-9999999", new int[] {120, 120, 119, 119, 120}, 5);
        for (String text : new String[] {"", "-", ".", "-.", "--1", "1-", "1-2", "1..2", ".1.", "-1.2-"}) {
            type(x, text);
            due(ELEMENT, () -> x.read(0, 'n'));
            due(x.flags(), 0);
            due(x.erase(), text.length());
        }
        Ulphouse y = house();
        wrongFormats(format -> y.read(format, 'x'));
        wrongSigns(sign -> y.read(0, sign));
    }

    private void rounded(Ulphouse x, String text, int[] codes, int flags) {
        type(x, text);
        for (int i = 0; i < 5; i++) {
            due(x.read(0, Oracle.ROUNDINGS.charAt(i)), codes[i]);
        }
        due(x.clearFlags(), flags);
    }

    private void promise34() {
        Ulphouse x = house();
        int[][] shortest = shortest();
        for (int[] each : shortest) {
            due(x.digits(0, each[0]), each[1]);
        }
        wrongToShorten(x::digits);
    }

    private void promise35() {
        Ulphouse x = house();
        for (int[] each : shortest()) {
            due(x.power(0, each[0]), each[2]);
        }
        wrongToShorten(x::power);
    }

    /** A code, its digits and their power of 10: 1/32 is 0.03, 9/8 is 1.1, 10 and 15 need one digit and two. */
    private static int[][] shortest() {
        return new int[][] {{1, 3, -2}, {65, -3, -2}, {24, 1, 0}, {88, -1, 0}, {25, 11, -1}, {28, 15, -1}, {50, 1, 1},
            {55, 15, 0}, {119, -15, 0}, {16, 5, -1}};
    }

    private interface OfCode {
        int run(int format, int code);
    }

    private void wrongToShorten(OfCode call) {
        for (int code : new int[] {0, 64, 56, 57, 120, 127}) {
            due(ARITHMETIC, () -> call.run(0, code));
        }
        wrongFormats(format -> call.run(format, 24));
        wrongCodes(code -> call.run(0, code));
    }

    private void promise36() {
        Ulphouse x = house();
        x.format(4, 5);
        long want = 17;
        Ulphouse y = house();
        for (int code = 0; code < 128; code++) {
            want = 31 * want + y.one(0, 'e', code, 'a');
        }
        due(x.certify(0, 'e', 'a'), want);
        due(x.certify(0, 'e', 'a'), want);
        due(x.certificates(), 1);
        due(ARGUMENT, () -> x.certify(2, 'q', 'n'));
        due(INDEX, () -> x.certify(3, 'x', 'x'));
        wrongSigns(sign -> x.certify(0, sign, 'n'));
        wrongSigns(sign -> x.certify(0, 'q', sign));
        int kept = 1;
        for (char function : "qi".toCharArray()) {
            for (char rounding : Oracle.ROUNDINGS.toCharArray()) {
                x.certify(0, function, rounding);
                due(x.certificates(), ++kept);
            }
        }
        x.certify(1, 'q', 'n');
        due(x.certificates(), 12);
        due(STATE, () -> x.certify(1, 'q', 'z'));
        due(ARGUMENT, () -> x.certify(2, 'q', 'z'));
        due(x.certify(0, 'e', 'a'), want);
        due(x.certificates(), 12);
        holds(x.check(1, 'q', 'n'));
        due(ELEMENT, () -> x.check(1, 'q', 'z'));
    }

    private void promise37() {
        Ulphouse x = house();
        due(ELEMENT, () -> x.check(0, 's', 'n'));
        x.certify(0, 's', 'n');
        holds(x.check(0, 's', 'n'));
        holds(x.check(0, 's', 'n'));
        due(ELEMENT, () -> x.check(1, 's', 'n'));
        due(ELEMENT, () -> x.check(0, 'c', 'n'));
        due(ELEMENT, () -> x.check(0, 's', 'u'));
        wrongFormats(format -> x.check(format, 'x', 'n'));
        wrongSigns(sign -> x.check(0, sign, 'n'));
        wrongSigns(sign -> x.check(0, 's', sign));
        due(x.flags(), 0);
    }

    private void promise38() {
        Ulphouse x = house();
        due(x.certificates(), 0);
        x.certify(0, 'l', 'd');
        due(x.certificates(), 1);
        x.certify(0, 'l', 'd');
        due(x.certificates(), 1);
        x.certify(1, 'l', 'd');
        due(x.certificates(), 2);
        due(ARGUMENT, () -> x.certify(0, 'l', 'x'));
        due(x.certificates(), 2);
    }

    private void promise39() {
        Ulphouse x = house();
        for (char rounding : Oracle.ROUNDINGS.toCharArray()) {
            for (char function : "qberl".toCharArray()) {
                holds(x.isMonotone(0, function, rounding));
            }
            for (char function : "isc".toCharArray()) {
                holds(!x.isMonotone(0, function, rounding));
            }
        }
        due(x.flags(), 0);
        wrongFormats(format -> x.isMonotone(format, 'x', 'n'));
        wrongSigns(sign -> x.isMonotone(0, sign, 'n'));
        wrongSigns(sign -> x.isMonotone(0, 'q', sign));
    }

    private void promise40() {
        Ulphouse x = house();
        due(x.floatBits(0, 0), 0);
        due(x.floatBits(0, 64), Integer.MIN_VALUE);
        due(x.floatBits(0, 24), Float.floatToIntBits(1f));
        due(x.floatBits(0, 89), Float.floatToIntBits(-1.125f));
        due(x.floatBits(0, 1), Float.floatToIntBits(0.03125f));
        due(x.floatBits(0, 55), Float.floatToIntBits(15f));
        due(ARITHMETIC, () -> x.floatBits(0, 56));
        due(ARITHMETIC, () -> x.floatBits(0, 60));
        wrongFormats(format -> x.floatBits(format, 0));
        wrongCodes(code -> x.floatBits(0, code));
    }

    private void promise41() {
        Ulphouse x = house();
        holds(x.finiteShare(0) == 0.875f);
        Ulphouse y = new Ulphouse();
        y.format(2, 1);
        y.format(4, 6);
        holds(y.finiteShare(0) == 0.75f);
        holds(y.finiteShare(1) == 0.9375f);
        wrongFormats(x::finiteShare);
    }

    private void promise42() {
        Ulphouse x = house();
        holds(x.meanValue(0) == 3.25);
        Ulphouse y = new Ulphouse();
        y.format(2, 1);
        // 0, 0.5, 1, 1.5, 2 and 3
        holds(y.meanValue(0) == 32768.0 / 6.0 / 4096.0);
        wrongFormats(x::meanValue);
    }

    private void promise43() {
        Ulphouse x = house();
        x.format(4, 6);
        holds(x.isTrue());
        for (char function : Oracle.SINGLES.toCharArray()) {
            x.hardest(2, function);
            x.isMonotone(2, function, 'u');
            x.certify(1, function, 'n');
            holds(x.isTrue());
        }
        holds(x.check(1, 's', 'n'));
        x.one(0, 'i', 0, 'n');
        holds(x.isTrue());
        due(x.flags(), 8);
    }

    // ---- the face itself

    private void face() {
        Set<String> names = new TreeSet<>();
        for (Method method : Ulphouse.class.getDeclaredMethods()) {
            if (Modifier.isPublic(method.getModifiers())) {
                names.add(method.getName());
            } else {
                tally.holds(method.getName() + " is private", Modifier.isPrivate(method.getModifiers()));
            }
        }
        tally.due("public methods", names.size(), 42);
        for (Method method : Ulphouse.class.getDeclaredMethods()) {
            boolean isPublic = Modifier.isPublic(method.getModifiers());
            tally.holds(method.getName() + " stands once", isPublic || !names.contains(method.getName()));
        }
        tally.due("public members", Ulphouse.class.getFields().length, 0);
        tally.due("constructors", Ulphouse.class.getDeclaredConstructors().length, 1);
        tally.holds("final", Modifier.isFinal(Ulphouse.class.getModifiers()));
    }
}
