import java.util.NoSuchElementException;

/** Reducing, hard cases, quick answers, tables, lines and polynomials: 'Terms' and the promises 20 to 30. */
final class EdgesOfHardCases {
    private static final Class<? extends Exception> INDEX = Sentences.INDEX;
    private static final Class<? extends Exception> ARGUMENT = Sentences.ARGUMENT;
    private static final Class<? extends Exception> ARITHMETIC = Sentences.ARITHMETIC;
    private static final Class<? extends Exception> ELEMENT = Sentences.ELEMENT;
    private final Sentences s;

    EdgesOfHardCases(Sentences s) {
        this.s = s;
    }

    void all() {
        quarters();
        promises20To22();
        whoCounts();
        distances();
        hardestOfAll();
        promises23And24();
        quickAnswers();
        promises25And26();
        places();
        promise27();
        lines();
        promise28();
        schemes();
        promise29();
        promise30();
    }

    /** Of 3 and 3 bits: 24 is 1, 55 is 15, 64 -0; then of 2 and 1 bits: 2 is 1, 5 is 3; then of 3 and 5 bits. */
    private static Ulphouse house() {
        Ulphouse x = new Ulphouse();
        x.format(3, 3);
        x.format(2, 1);
        x.format(3, 5);
        return x;
    }

    private interface OfNumber {
        long ask(int number);
    }

    private interface OfSign {
        long ask(char sign);
    }

    private void wrongFormats(OfNumber call) {
        for (int format : new int[] {-1, 3, 6, Integer.MIN_VALUE, Integer.MAX_VALUE}) {
            s.refused("format " + format, INDEX, () -> call.ask(format));
        }
    }

    private void wrongCodes(OfNumber call) {
        for (int code : new int[] {-1, 128, Integer.MIN_VALUE, Integer.MAX_VALUE}) {
            s.refused("code " + code, INDEX, () -> call.ask(code));
        }
    }

    private void wrongFunctions(OfSign call) {
        for (char sign : "+-*/hpnQx \u0000\u0171\uffff".toCharArray()) {
            s.refused("sign " + (int) sign, ARGUMENT, () -> call.ask(sign));
        }
    }

    // ---- reducing

    private void quarters() {
        s.of("Terms", "Reducing. A finite code x has the quarter k, the whole number nearest to x divided by half of the "
            + "number pi");
        for (Spec f : Spec.all()) {
            for (int bare = 1; bare < f.infinite; bare++) {
                long k = Math.round(f.amount(bare) / 2048.0 / Math.PI);
                s.due(f.name() + bare, f.house().quarter(0, bare), k);
                s.due(f.name() + bare, f.house().quarter(0, f.minus(bare)), -k);
            }
        }
        s.of("Terms", "of two alike the even one, which is never so but for 0");
        for (Spec f : Spec.all()) {
            s.due(f.house().quarter(0, 0), 0);
            s.due(f.house().quarter(0, f.sign), 0);
        }
        s.of("Terms", "and the rest x less k times half of the number pi.");
        Ulphouse x = house();
        int[] rests = {64 + 20, 64 + 19, 64 + 18, 64 + 17, 64 + 14, 64 + 10, 64 + 6, 64 + 2, 2, 6, 10, 14, 19, 64 + 18};
        for (int i = 0; i < rests.length; i++) {
            s.due(x.reduced(0, 21 + i), rests[i]);
            s.due(x.reduced(0, 64 + 21 + i), rests[i] ^ 64);
        }
    }

    private void promises20To22() {
        Ulphouse x = house();
        s.of("quarter", "Returns the quarter of a code.");
        s.due(x.quarter(0, 55), 10);
        s.of("quarter", "Returns the whole number k.");
        // a quarter of pi lies between 3/4 and 13/16
        s.due(x.quarter(0, 20), 0);
        s.due(x.quarter(0, 21), 1);
        s.due(x.quarter(0, 84), 0);
        s.due(x.quarter(0, 85), -1);
        s.of("quarter", "Throws `IndexOutOfBoundsException` if there is no such format, or no such code of it");
        wrongFormats(format -> x.quarter(format, 0));
        wrongCodes(code -> x.quarter(0, code));
        s.of("quarter", "Throws `ArithmeticException` if it is not finite");
        s.of("reduced", "Returns the rest of a code, rounded by 'n'; it looks.");
        // 11 less 7 quarters is 0.0044, which is nearer to 0 than to 1/32
        s.due(x.reduced(0, 51), 0);
        s.due(x.reduced(0, 64 + 51), 64);
        s.due(x.reduced(1, 3), 8);
        s.due(x.reduced(1, 11), 0);
        s.due(x.flags(), 0);
        s.of("reduced", "Returns the code of the rest, the code itself for a zero.");
        s.due(x.reduced(0, 0), 0);
        s.due(x.reduced(0, 64), 64);
        s.due(x.reduced(0, 1), 1);
        s.due(x.reduced(0, 65), 65);
        s.due(x.reduced(0, 20), 20);
        s.of("reduced", "Throws `IndexOutOfBoundsException` if there is no such format, or no such code of it");
        wrongFormats(format -> x.reduced(format, 0));
        wrongCodes(code -> x.reduced(0, code));
        s.of("reduced", "Throws `ArithmeticException` if it is not finite");
        for (int code : new int[] {56, 57, 63, 120, 121, 127}) {
            s.refused(ARITHMETIC, () -> x.quarter(0, code));
            s.refused(ARITHMETIC, () -> x.reduced(0, code));
        }
        s.of("cancels", "Returns the code above 0 that cancels most: whose quarter is not 0, and whose rest has the least "
            + "amount.");
        s.due(x.cancels(0), 51);
        s.of("cancels", "Returns the code.");
        s.due(x.cancels(1), 3);
        Ulphouse y = new Ulphouse();
        y.format(4, 6);
        s.due(y.cancels(0), 664);
        s.of("cancels", "Throws `IndexOutOfBoundsException` if there is no such format");
        wrongFormats(x::cancels);
        s.of("cancels", "Throws `NoSuchElementException` if there is none");
        // every format has 2, whose quarter is 1
        for (Spec f : Spec.all()) {
            int code = f.house().cancels(0);
            s.holds(f.name(), code > 0 && code < f.infinite && f.house().quarter(0, code) != 0);
        }
    }

    // ---- hard cases

    private static int distance(Ulphouse x, int format, char function, int code) {
        try {
            return x.distance(format, function, code);
        } catch (NoSuchElementException e) {
            return -1;
        }
    }

    private void none(char function, int... codes) {
        for (int code : codes) {
            s.due(function + " of " + code, distance(house(), 0, function, code), -1);
        }
    }

    private void some(char function, int... codes) {
        for (int code : codes) {
            s.holds(function + " of " + code, distance(house(), 0, function, code) >= 0);
        }
    }

    private void whoCounts() {
        s.of("Terms", "Hard cases. For a function of one argument without its special cases, over all finite codes for "
            + "which it is finite, not exact, not 0");
        for (char function : Spec.SINGLES.toCharArray()) {
            none(function, 56, 57, 60, 63, 120, 121, 124, 127);
            none(function, 0, 64);
        }
        none('q', 65, 88, 119);
        none('r', 65, 88, 119);
        none('l', 65, 88, 119);
        none('q', 24, 40, 49, 8);
        none('b', 24, 48, 88, 112);
        none('i', 24, 32, 16, 88, 40);
        none('e', 24, 32, 36, 88, 96);
        none('l', 24, 32, 16, 8);
        none('s', 24, 32, 16, 28, 88, 55);
        none('c', 24, 32, 16, 28, 88, 55);
        some('b', 65, 119);
        some('i', 67, 103);
        some('e', 65, 95);
        some('s', 67, 103);
        some('c', 65, 103);
        s.of("Terms", "its amount not below 2 to the power of (1 - B)");
        // a quarter: the root of 1/16 is that, the next are above; 1 by 4 is that, the next are below, and so on
        none('q', 1, 2);
        some('q', 3, 4);
        none('i', 40, 41, 42, 55, 104, 105, 119);
        some('i', 39, 103);
        none('e', 96, 97, 98, 119);
        some('e', 95, 94);
        none('l', 25, 22, 23);
        some('l', 26, 21);
        none('s', 1, 2, 65, 66);
        some('s', 3, 67);
        s.of("Terms", "and not above the greatest finite value");
        none('e', 40, 41, 42, 55);
        some('e', 39, 38);
        none('i', 1, 2, 65, 66);
        some('i', 3, 67);
    }

    private void distances() {
        s.of("Terms", "its distance is how far it is from the midpoint of the two values between which it is, in 65536ths "
            + "of the step between these two, rounded down.");
        Ulphouse x = house();
        // 1 by 3 is 10 and 2/3 of 32 steps, 1 by 9/8 is 14 and 2/9 of 16 steps, 1 by 15/8 is 8 and 8/15
        s.due(x.distance(0, 'i', 36), 65536 / 6);
        s.due(x.distance(0, 'i', 25), 65536 * 5 / 18);
        s.due(x.distance(0, 'i', 31), 65536 / 30);
        s.due(x.distance(0, 'i', 100), 65536 / 6);
        // the root of 1/2 is 11.3137 of 16 steps
        s.due(x.distance(0, 'q', 16), (int) (65536 * (11.5 - 16 * 0.70710678118654752)));
        // between 3/8 and 1/2 there are 4 steps, as above 1/4 that is a normal one
        s.due(x.distance(0, 'e', 39), (int) (65536 * 0.0456568));
        s.due(x.distance(0, 'b', 9), 1116);
        s.due(x.distance(0, 'b', 73), 1116);
        // of 4 and 1 bits 4 and 6 are next to each other: the logarithm of 32, 5, is their midpoint
        Spec f = new Spec(4, 1);
        Ulphouse y = new Ulphouse();
        y.format(4, 1);
        s.due(y.distance(0, 'l', f.code(32)), 0);
        s.due(y.place(0, 'l', f.code(32), 0), f.code(32));
        s.due(y.distance(0, 'l', f.code(128)), 0);
        s.due(y.hardest(0, 'l'), f.code(1.0 / 128));
        s.due(y.distance(0, 'l', f.code(1.0 / 128)), 0);
    }

    private void hardestOfAll() {
        s.of("Terms", "The hardest code is the one with the least distance, of several the lowest.");
        Ulphouse x = house();
        // the inverses of 15/32, 15/16, 15/8 and 15/4, with either sign, have the same distance, and so on
        int[] lowest = {23, 9, 15, 13, 8, 31, 9, 7};
        int[][] others = {{39, 55}, {33, 73, 97}, {23, 31, 39, 79}, {29, 45}, {26, 33, 37, 84, 94}, {}, {73}, {71}};
        for (int i = 0; i < 8; i++) {
            char function = Spec.SINGLES.charAt(i);
            s.due(function + "", x.hardest(0, function), lowest[i]);
            int least = x.distance(0, function, lowest[i]);
            for (int other : others[i]) {
                s.due(function + "" + other, x.distance(0, function, other), least);
            }
        }
        for (Spec f : Spec.all()) {
            for (char function : Spec.SINGLES.toCharArray()) {
                hardest(f, function);
            }
        }
    }

    private void hardest(Spec f, char function) {
        int found = -1;
        int least = Integer.MAX_VALUE;
        for (int code = 0; code < f.size(); code++) {
            int distance = distance(f.house(), 0, function, code);
            if (distance >= 0 && distance < least) {
                found = code;
                least = distance;
            }
        }
        if (found < 0) {
            s.refused(f.name() + function, ELEMENT, () -> f.house().hardest(0, function));
        } else {
            s.due(f.name() + function, f.house().hardest(0, function), found);
        }
    }

    private void promises23And24() {
        Ulphouse x = house();
        s.of("hardest", "Returns the hardest code of a function; it looks.");
        s.due(x.hardest(0, 'l'), 31);
        s.due(x.flags(), 0);
        s.of("hardest", "Returns the code.");
        s.due(x.hardest(1, 'b'), 4);
        s.due(x.hardest(1, 'q'), 5);
        s.of("hardest", "Throws `IndexOutOfBoundsException` if there is no such format");
        wrongFormats(format -> x.hardest(format, 'q'));
        s.of("hardest", "Throws `IllegalArgumentException` if there is no such function");
        wrongFunctions(function -> x.hardest(0, function));
        s.of("hardest", "Throws `NoSuchElementException` if there is none");
        // with 2 and 1 bits every inverse is exact or below 1, and so are sines and cosines
        for (char function : "isc".toCharArray()) {
            s.refused(ELEMENT, () -> x.hardest(1, function));
        }
        s.of("distance", "Returns the distance of a code, as for hard cases.");
        s.due(x.distance(0, 'l', 31), 671);
        s.of("distance", "Returns the distance, 0 to 32768.");
        s.due(x.distance(1, 'b', 4), 1300);
        for (Spec f : Spec.all()) {
            for (int code = 0; code < f.infinite; code++) {
                int distance = distance(f.house(), 0, 'c', code);
                s.holds(f.name() + code, distance >= -1 && distance <= 32768);
            }
        }
        s.of("distance", "Throws `IndexOutOfBoundsException` if there is no such format, or no such code of it");
        wrongFormats(format -> x.distance(format, 'q', 0));
        wrongCodes(code -> x.distance(0, 'q', code));
        s.of("distance", "Throws `IllegalArgumentException` if there is no such function");
        wrongFunctions(function -> x.distance(0, function, 57));
        s.of("distance", "Throws `NoSuchElementException` if the code is none of those");
        for (int code : new int[] {0, 1, 2, 24, 56, 57, 64, 65, 120, 127}) {
            s.refused(ELEMENT, () -> x.distance(0, 'q', code));
        }
        s.due(x.flags(), 0);
    }

    // ---- quick answers

    /** Of 2 and 1 bits, by 2 and 2: 1/2 is 1 and 2, 1 is 2 and 4, 3/2 3 and 6, 2 4 and 8, 3 5 and 10. */
    private void quickAnswers() {
        s.of("Terms", "By a wider format, with the same e and more m: a function is asked there by 'n'; if the value there "
            + "less its step, and the value plus its step, rounded by 'n' into the narrow format, are the same code, a "
            + "zero having the sign of the value there, the quick answer is surely right");
        Ulphouse x = new Ulphouse();
        for (int m = 1; m <= 6; m++) {
            x.format(2, m);
        }
        // roots: of 1/2 it is 3/4, between 1/2 and 1; of 3/2 5/4; of 2 3/2; of 3 7/4; only that of 1 is sure
        s.due(x.slow(0, 1, 'q'), 4);
        // 1 by 1/2 is 2, which 9/4 less and 7/4 tell apart; by 1 it is sure; the others are not; twice for the signs
        s.due(x.slow(0, 1, 'i'), 8);
        s.due(x.slow(0, 4, 'i'), 0);
        s.due(x.slow(0, 2, 'i'), 4);
        s.due(x.slow(0, 5, 'q'), 1);
        s.due(x.slow(1, 5, 'q'), 3);
        s.due(x.slow(4, 5, 'e'), 123);
        s.of("Terms", "the step is the distance from its amount to the next greater amount in the wide format.");
        s.due(x.slow(0, 1, 'e'), 7);
        s.due(x.slow(0, 1, 'l'), 2);
        s.due(x.slow(1, 2, 'e'), 17);
        s.of("Terms", "Codes are those of the narrow format, taken as values of the wide one, finite, and with finite "
            + "answers that are not 0 there");
        // sines of halves are whole; only those of odd ones count, and cosines of whole ones; all are sure
        s.due(x.slow(0, 1, 's'), 0);
        s.due(x.slow(0, 1, 'c'), 0);
        s.due(x.wrong(0, 1, 's'), 0);
        // below 0 there are no roots and no logarithms, of 0 none that count
        s.due(x.slow(0, 1, 'r'), 4);
        s.due(x.slow(0, 1, 'b'), 8);
        s.of("Terms", "the greatest finite value of the wide format, with either sign, is never surely right.");
        for (Spec f : Spec.all()) {
            for (int m = f.fractions + 1; m <= 6; m++) {
                neverTheGreatest(f, new Spec(f.exponents, m));
            }
        }
    }

    /** No quick answer is the greatest value, in any format: the answers that count are all below it. */
    private void neverTheGreatest(Spec narrow, Spec wide) {
        for (int bare = 0; bare < narrow.infinite; bare++) {
            for (char function : "qbier".toCharArray()) {
                int code = bare << wide.fractions - narrow.fractions;
                int answer = wide.house().one(0, function, code, 'n');
                s.holds(narrow.name() + wide.name() + function + code, answer != wide.greatest);
            }
        }
    }

    private void promises25And26() {
        Ulphouse x = new Ulphouse();
        x.format(2, 1);
        x.format(2, 2);
        x.format(3, 2);
        s.of("slow", "Returns for how many codes a quick answer is not surely right; it looks.");
        s.due(x.slow(0, 1, 'q'), 4);
        s.due(x.flags(), 0);
        s.of("slow", "Returns how many.");
        s.due(x.slow(0, 1, 's'), 0);
        s.of("wrong", "Returns for how many codes the quick answer, the wide one rounded by 'n', is wrong; it looks.");
        // the root of 1/2 is 0.707, which is 3/4 and then 1, but just 1/2; that of 3 is 1.73, which is 7/4 and then 2
        s.due(x.wrong(0, 1, 'q'), 2);
        // 1 by 3/2 is 2/3, which is 3/4 and then 1; by 3 it is 1/3, which is 1/4 and then 0; twice for the signs
        s.due(x.wrong(0, 1, 'i'), 4);
        s.due(x.flags(), 0);
        s.of("wrong", "Returns how many, of the codes that count for quick answers.");
        s.due(x.wrong(0, 1, 'e'), 2);
        s.due(x.wrong(0, 1, 'l'), 0);
        s.of("slow", "Throws `IndexOutOfBoundsException` if there is no such format, for either");
        wrongFormats(format -> x.slow(format, 1, 'q'));
        wrongFormats(format -> x.slow(0, format, 'q'));
        s.of("wrong", "Throws `IndexOutOfBoundsException` if there is no such format, for either");
        wrongFormats(format -> x.wrong(format, 1, 'q'));
        wrongFormats(format -> x.wrong(0, format, 'q'));
        s.of("slow", "Throws `IllegalArgumentException` if there is no such function, or the other format is not wider");
        wrongFunctions(function -> x.slow(0, 1, function));
        for (int[] pair : new int[][] {{0, 0}, {1, 0}, {1, 1}, {0, 2}, {2, 0}, {1, 2}, {2, 1}}) {
            s.refused(ARGUMENT, () -> x.slow(pair[0], pair[1], 'q'));
        }
        s.of("wrong", "Throws `IllegalArgumentException` if there is no such function, or the other format is not wider");
        wrongFunctions(function -> x.wrong(0, 1, function));
        for (int[] pair : new int[][] {{0, 0}, {1, 0}, {1, 1}, {0, 2}, {2, 0}, {1, 2}, {2, 1}}) {
            s.refused(ARGUMENT, () -> x.wrong(pair[0], pair[1], 'q'));
        }
    }

    // ---- tables and lines

    private void places() {
        Ulphouse x = house();
        s.of("Terms", "A place of a table for a function: of the codes of a row around a code, up to so many below and "
            + "above it");
        // distances of inverses: 18: 19660, 19: 8936, 20: 10922, 21: 22685, 22: 23405, 23: 2184
        s.due(x.place(0, 'i', 20, 0), 20);
        s.due(x.place(0, 'i', 20, 1), 21);
        s.due(x.place(0, 'i', 20, 2), 22);
        s.due(x.place(0, 'i', 23, 1), 22);
        s.due(x.place(0, 'i', 19, 1), 18);
        s.due(x.place(0, 'i', 39, 16), 30);
        s.of("Terms", "all finite and not below 0");
        // 55 and 16 above it are no codes above 0; of -0 and 16 below it 48 is the first
        s.due(x.place(0, 'b', 55, 0), 55);
        s.due(x.place(0, 'b', 55, 16), 45);
        s.due(x.place(0, 'b', 64, 16), 51);
        s.due(x.place(0, 'b', 64, 9), 55);
        s.due(x.place(0, 'b', 65, 10), 55);
        s.refused(ELEMENT, () -> x.place(0, 'b', 64, 8));
        s.due(x.place(0, 'b', 0, 16), 1);
        // with 2 and 1 bits all codes are within 16 of the last one
        s.due(x.place(1, 'q', 15, 16), 4);
        s.due(x.place(1, 'b', 15, 16), 5);
        s.of("Terms", "that one with the greatest distance, as told for hard cases, of several the lowest code");
        // 14, 22, 30 and 38 have the same
        s.due(x.place(0, 'i', 22, 8), 14);
        s.due(x.place(0, 'i', 22, 7), 22);
        s.due(x.place(0, 'i', 30, 8), 22);
        s.due(x.place(0, 'i', 30, 16), 14);
        s.of("Terms", "those that are none of these do not count.");
        s.due(x.place(0, 'i', 24, 1), 25);
        s.due(x.place(0, 'i', 44, 5), 39);
        s.refused(ELEMENT, () -> x.place(0, 'i', 44, 4));
    }

    private void promise27() {
        Ulphouse x = house();
        s.of("place", "Returns a place of a table; it looks.");
        s.due(x.place(0, 'q', 24, 8), 22);
        s.due(x.flags(), 0);
        s.of("place", "Returns the code.");
        s.due(x.place(0, 'q', 25, 0), 25);
        s.of("place", "Throws `IndexOutOfBoundsException` if there is no such format, or no such code of it");
        wrongFormats(format -> x.place(format, 'q', 24, 1));
        wrongCodes(code -> x.place(0, 'q', code, 16));
        s.of("place", "Throws `IllegalArgumentException` if there is no such function, or the number is out of range");
        wrongFunctions(function -> x.place(0, function, 24, 1));
        for (int around : new int[] {-1, 17, Integer.MIN_VALUE, Integer.MAX_VALUE}) {
            s.refused(ARGUMENT, () -> x.place(0, 'q', 24, around));
            s.refused(ARGUMENT, () -> x.place(0, 'q', 127, around));
        }
        s.due(x.place(0, 'q', 16, 16), 7);
        s.of("place", "Throws `NoSuchElementException` if none of these counts");
        s.refused(ELEMENT, () -> x.place(0, 'q', 24, 0));
        s.refused(ELEMENT, () -> x.place(0, 'q', 0, 2));
        s.due(x.place(0, 'q', 0, 3), 3);
        s.refused(ELEMENT, () -> x.place(0, 'q', 72, 16));
        s.due(x.place(0, 'q', 71, 16), 55);
        s.refused(ELEMENT, () -> x.place(0, 'b', 81, 16));
        s.refused(ELEMENT, () -> x.place(0, 'b', 127, 16));
        s.refused(ELEMENT, () -> x.place(1, 's', 0, 16));
        s.due(x.flags(), 0);
    }

    private void lines() {
        Ulphouse x = house();
        s.of("Terms", "A line for the codes from one to another one, at most 24");
        s.due(x.line(0, 'c', 0, 23), x.line(0, 'c', 64, 64 + 23));
        s.refused(ARGUMENT, () -> x.line(0, 'c', 0, 24));
        s.refused(ARGUMENT, () -> x.line(0, 'c', 0, 25));
        s.of("Terms", "of the answers by 'n' there, y, in units of 2 to the power of -12, the line a times the index, from "
            + "0, plus b with the least greatest amount of a times index plus b less y, a and b being any numbers");
        // the inverses of 8/8 to 10/8 are 16, 14 and 13 16ths: a quarter of one is the least, of 256 units
        s.due(x.line(0, 'i', 24, 26), 64 * 4096);
        s.due(x.line(0, 'i', 64 + 24, 64 + 26), 64 * 4096);
        s.due(x.line(0, 'i', 25, 26), 0);
        s.due(x.line(0, 'i', 25, 25), 0);
        // 2 to the power of 1, 9/8 and 10/8 are 2, 9/4 and 10/4
        s.due(x.line(0, 'e', 24, 26), 0);
        s.due(x.line(0, 'q', 0, 0), 0);
        s.due(x.line(0, 'q', 64, 64), 0);
        s.of("Terms", "4096 times this amount, rounded down.");
        // and that of 11/8 is 12 16ths: a third of one is the least
        s.due(x.line(0, 'i', 24, 27), 256 * 4096 / 3);
    }

    private void promise28() {
        Ulphouse x = house();
        s.of("line", "Returns the error of the best line; it looks.");
        s.due(x.line(0, 'i', 24, 26), 262144);
        s.due(x.flags(), 0);
        s.of("line", "Returns 4096 times the amount, in units of 2 to the power of -12, rounded down.");
        s.due(x.line(0, 'i', 24, 27), 349525);
        s.of("line", "Throws `IndexOutOfBoundsException` if there is no such format, or no such code, for either");
        wrongFormats(format -> x.line(format, 'q', 0, 0));
        wrongCodes(code -> x.line(0, 'q', code, 24));
        wrongCodes(code -> x.line(0, 'q', 24, code));
        s.refused(INDEX, () -> x.line(0, 'q', 127, 128));
        s.of("line", "Throws `IllegalArgumentException` if there is no such function, or the last code is out of range");
        wrongFunctions(function -> x.line(0, function, 24, 26));
        for (int[] pair : new int[][] {{24, 23}, {24, 48}, {24, 127}, {127, 0}, {0, 24}, {64, 63}}) {
            s.refused(ARGUMENT, () -> x.line(0, 'q', pair[0], pair[1]));
        }
        s.holds(x.line(0, 'q', 24, 47) > 0);
        s.due(x.line(0, 'q', 24, 24), 0);
        s.of("line", "Throws `ArithmeticException` if some answer is not finite");
        s.refused(ARITHMETIC, () -> x.line(0, 'i', 0, 3));
        s.refused(ARITHMETIC, () -> x.line(0, 'i', 0, 0));
        s.refused(ARITHMETIC, () -> x.line(0, 'e', 38, 40));
        s.refused(ARITHMETIC, () -> x.line(0, 'q', 54, 56));
        s.refused(ARITHMETIC, () -> x.line(0, 'q', 64, 65));
        s.refused(ARITHMETIC, () -> x.line(0, 'b', 54, 66));
        s.refused(ARITHMETIC, () -> x.line(0, 's', 57, 57));
        s.refused(ARITHMETIC, () -> x.line(0, 'l', 64, 64));
        s.holds(x.line(0, 'e', 38, 39) == 0);
        // of infinite arguments answers can be finite
        s.due(x.line(0, 'i', 55, 56), 0);
        s.due(x.line(0, 'e', 119, 120), 0);
        s.due(x.flags(), 0);
    }

    // ---- polynomials

    private void polynomial(int c, int d, int f, int at, int byFirst, int bySecond) {
        Ulphouse x = house();
        String about = c + " " + d + " " + f + " at " + at;
        s.due(about, x.polynomial(0, c, d, f, at, true), byFirst);
        s.due(about, x.polynomial(0, c, d, f, at, false), bySecond);
        s.due(x.flags(), 0);
    }

    private void schemes() {
        s.of("Terms", "With three codes c, d and f, and x: by the first scheme, (f times x plus d) times x plus c; by the "
            + "second, (c plus d times x) plus (f times (x times x)), each operation rounded by 'n'.");
        // 1 + 2 times 3/2 + 3 times 9/4 is 10 and 3/4
        polynomial(24, 32, 36, 28, 51, 51);
        // each code in its place: 1 + 0 + 0, 0 + 3 + 0, 0 + 0 + 9
        polynomial(24, 0, 0, 36, 24, 24);
        polynomial(0, 24, 0, 36, 36, 36);
        polynomial(0, 0, 24, 36, 49, 49);
        // 1/32 times 8 times 8 is 2, but 8 times 8 is too much
        polynomial(0, 0, 1, 48, 32, 56);
        // 9/8 plus 1 is 2, times 9/8 9/4, plus 1 13/4; 9/8 plus 1 is 2, 9/8 squared 5/4
        polynomial(24, 24, 24, 25, 37, 37);
        // 12/8 times 9/8 is 13.5 eighths and goes to 14, times 9/8 to 16; 9/8 squared goes to 10, times 12/8 is 15
        polynomial(0, 0, 28, 25, 32, 31);
        polynomial(64, 64, 64, 24, 64, 64);
        polynomial(0, 64, 64, 24, 0, 0);
        polynomial(0, 0, 64, 88, 0, 0);
        for (int none : new int[] {57, 127}) {
            polynomial(none, 0, 0, 0, 60, 60);
            polynomial(0, none, 0, 0, 60, 60);
            polynomial(0, 0, none, 0, 60, 60);
            polynomial(0, 0, 0, none, 60, 60);
        }
        polynomial(56, 24, 24, 24, 56, 56);
        polynomial(120, 56, 24, 24, 60, 60);
        polynomial(0, 0, 0, 56, 60, 60);
        s.of("Terms", "The error of a scheme is how far its value is from the true one, in units of 2 to the power of "
            + "-36.");
        Ulphouse x = house();
        s.due(x.error(0, 24, 32, 36, 28, true), 1L << 34);
        // 1 + 9/8 + 81/64 is 9/64 above 13/4
        s.due(x.error(0, 24, 24, 24, 25, true), 9L << 30);
        s.due(x.error(0, 88, 88, 88, 25, true), 9L << 30);
        s.due(x.error(0, 24, 0, 0, 55, true), 0);
        s.due(x.error(0, 0, 0, 1, 1, true), 1L << 36 - 15);
        s.due(x.error(0, 0, 0, 64, 1, false), 0);
    }

    private void promise29() {
        Ulphouse x = house();
        s.of("polynomial", "Returns a polynomial by a scheme; it looks.");
        s.due(x.polynomial(0, 55, 55, 55, 55, true), 56);
        s.due(x.flags(), 0);
        s.of("polynomial", "Returns the code.");
        s.due(x.polynomial(0, 24, 32, 36, 28, true), 51);
        s.of("polynomial", "Throws `IndexOutOfBoundsException` if there is no such format, or no such code, for any");
        wrongFormats(format -> x.polynomial(format, 0, 0, 0, 0, true));
        for (boolean isFirst : new boolean[] {true, false}) {
            wrongCodes(code -> x.polynomial(0, code, 0, 0, 0, isFirst));
            wrongCodes(code -> x.polynomial(0, 0, code, 0, 0, isFirst));
            wrongCodes(code -> x.polynomial(0, 0, 0, code, 0, isFirst));
            wrongCodes(code -> x.polynomial(0, 0, 0, 0, code, isFirst));
        }
    }

    private void promise30() {
        Ulphouse x = house();
        s.of("error", "Returns the error of a scheme.");
        s.due(x.error(0, 24, 24, 24, 25, false), 9L << 30);
        s.of("error", "Returns the error.");
        Ulphouse y = new Ulphouse();
        y.format(4, 6);
        // 2 to the power of -12, three times: far below the least one, and told to the last bit
        s.due(y.error(0, 0, 0, 1, 1, true), 1);
        s.due(y.error(0, 0, 1, 0, 1, false), 1L << 12);
        s.due(y.error(0, 1, 0, 0, 1, true), 0);
        s.of("error", "Throws `IndexOutOfBoundsException` if there is no such format, or no such code, for any");
        wrongFormats(format -> x.error(format, 0, 0, 0, 0, true));
        wrongCodes(code -> x.error(0, code, 0, 0, 0, true));
        wrongCodes(code -> x.error(0, 0, code, 0, 0, false));
        wrongCodes(code -> x.error(0, 0, 0, code, 0, true));
        wrongCodes(code -> x.error(0, 0, 0, 0, code, false));
        s.of("error", "Throws `ArithmeticException` if a code, or the value by the scheme, is not finite");
        for (int code : new int[] {56, 57, 63, 120, 121, 127}) {
            s.refused(ARITHMETIC, () -> x.error(0, code, 0, 0, 0, true));
            s.refused(ARITHMETIC, () -> x.error(0, 0, code, 0, 0, false));
            s.refused(ARITHMETIC, () -> x.error(0, 0, 0, code, 0, true));
            s.refused(ARITHMETIC, () -> x.error(0, 0, 0, 0, code, false));
        }
        s.refused(ARITHMETIC, () -> x.error(0, 0, 0, 1, 48, false));
        s.due(x.error(0, 0, 0, 1, 48, true), 0);
        s.refused(ARITHMETIC, () -> x.error(0, 55, 55, 0, 24, true));
        s.due(x.error(0, 55, 119, 0, 24, true), 0);
        s.due(x.flags(), 0);
    }
}
