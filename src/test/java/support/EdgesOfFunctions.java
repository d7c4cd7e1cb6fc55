/** Functions of one and two arguments: 'Terms' and the promises 10 to 14. */
final class EdgesOfFunctions {
    private static final Class<? extends Exception> INDEX = Sentences.INDEX;
    private static final Class<? extends Exception> ARGUMENT = Sentences.ARGUMENT;
    private static final int EXACT = 0;
    private static final int DIVIDED = 8;
    private static final int INVALID = 16;
    private final Sentences s;
    private Spec f;

    EdgesOfFunctions(Sentences s) {
        this.s = s;
    }

    void all() {
        for (Spec each : Spec.all()) {
            f = each;
            noNumbers();
            roots();
            inverses();
            powersAndLogarithms();
            sines();
            exactEnds();
            invalid();
            sums();
            productsAndQuotients();
            hypotenuses();
            powersOfOne();
            powersByInfinite();
            powersOfZero();
            powersOfInfinite();
            powersBelowZero();
            fused();
        }
        farOff();
        f = new Spec(3, 3);
        exactPowers();
        roundedOnce();
        promise10();
        promise11();
        promise12();
        promise13();
        promise14();
    }

    /** By every rounding, with just these flags, and likewise in the other way. */
    private void one(char function, int code, int due, int flags) {
        Ulphouse x = f.house();
        for (char rounding : Spec.ROUNDINGS.toCharArray()) {
            String about = f.name() + " " + function + " of " + code + " by " + rounding;
            s.due(about, x.one(0, function, code, rounding), due);
            s.due("flags of " + about, x.clearFlags(), flags);
            s.due("the other way, " + about, x.oneAnew(0, function, code, rounding), due);
        }
    }

    private void two(char function, int code, int other, int due, int flags) {
        Ulphouse x = f.house();
        for (char rounding : Spec.ROUNDINGS.toCharArray()) {
            String about = f.name() + " " + code + " " + function + " " + other + " by " + rounding;
            s.due(about, x.two(0, function, code, other, rounding), due);
            s.due("flags of " + about, x.clearFlags(), flags);
        }
    }

    private void fused(int a, int b, int c, int due, int flags) {
        Ulphouse x = f.house();
        for (char rounding : Spec.ROUNDINGS.toCharArray()) {
            String about = f.name() + " fused " + a + " " + b + " " + c + " by " + rounding;
            s.due(about, x.fused(0, a, b, c, rounding), due);
            s.due("flags of " + about, x.clearFlags(), flags);
        }
    }

    private int[] noNumberCodes() {
        return new int[] {f.infinite + 1, f.sign - 1, f.minus(f.infinite + 1), f.minus(f.sign - 1)};
    }

    // ---- one argument

    private void noNumbers() {
        s.of("Terms", "No number answers no number, without a flag.");
        for (char function : Spec.SINGLES.toCharArray()) {
            for (int code : noNumberCodes()) {
                one(function, code, f.none, EXACT);
            }
        }
        s.of("Terms", "No number, in either, answers no number, but as told.");
        for (char function : "+-*/hp".toCharArray()) {
            for (int code : noNumberCodes()) {
                two(function, code, f.one + 1, f.none, EXACT);
                two(function, f.one + 1, code, f.none, EXACT);
                two(function, code, f.infinite + 1, f.none, EXACT);
            }
        }
        for (char function : "+-*/".toCharArray()) {
            for (int other : new int[] {0, f.sign, f.infinite, f.minus(f.infinite)}) {
                two(function, f.none, other, f.none, EXACT);
                two(function, other, f.none, f.none, EXACT);
            }
        }
    }

    private void roots() {
        int minusInfinite = f.minus(f.infinite);
        s.of("Terms", "'q' the root: of -0 it is -0; of less than 0 invalid, no number.");
        one('q', 0, 0, EXACT);
        one('q', f.sign, f.sign, EXACT);
        one('q', f.minus(1), f.none, INVALID);
        one('q', f.minus(f.one), f.none, INVALID);
        one('q', f.minus(f.greatest), f.none, INVALID);
        one('q', minusInfinite, f.none, INVALID);
        one('q', f.one, f.one, EXACT);
        s.of("Terms", "'b' the root of the third power, with the sign of the argument.");
        one('b', 0, 0, EXACT);
        one('b', f.sign, f.sign, EXACT);
        one('b', f.one, f.one, EXACT);
        one('b', f.minus(f.one), f.minus(f.one), EXACT);
        one('b', f.infinite, f.infinite, EXACT);
        one('b', minusInfinite, minusInfinite, EXACT);
        Ulphouse x = f.house();
        s.due(x.one(0, 'b', f.minus(f.one + 1), 'u'), f.minus(f.one));
        s.due(x.one(0, 'b', f.minus(f.one + 1), 'd'), f.minus(f.one + 1));
        s.due(x.one(0, 'b', f.one + 1, 'u'), f.one + 1);
        s.due(x.one(0, 'b', f.one + 1, 'd'), f.one);
    }

    private void inverses() {
        s.of("Terms", "'i' 1 divided by it: of a zero infinite with its sign, divided by zero; of an infinite one, "
            + "a zero with its sign.");
        one('i', 0, f.infinite, DIVIDED);
        one('i', f.sign, f.minus(f.infinite), DIVIDED);
        one('i', f.infinite, 0, EXACT);
        one('i', f.minus(f.infinite), f.sign, EXACT);
        one('i', f.code(2), f.code(0.5), EXACT);
        one('i', f.minus(f.one), f.minus(f.one), EXACT);
        s.of("Terms", "'r' 1 divided by the root: of a zero infinite with its sign, divided by zero; of less than 0 "
            + "invalid; of infinity 0.");
        one('r', 0, f.infinite, DIVIDED);
        one('r', f.sign, f.minus(f.infinite), DIVIDED);
        one('r', f.minus(1), f.none, INVALID);
        one('r', f.minus(f.greatest), f.none, INVALID);
        one('r', f.minus(f.infinite), f.none, INVALID);
        one('r', f.infinite, 0, EXACT);
        one('r', f.one, f.one, EXACT);
    }

    private void powersAndLogarithms() {
        s.of("Terms", "'e' 2 to the power of it.");
        one('e', 0, f.one, EXACT);
        one('e', f.sign, f.one, EXACT);
        one('e', f.one, f.code(2), EXACT);
        one('e', f.minus(f.one), f.code(0.5), EXACT);
        one('e', f.infinite, f.infinite, EXACT);
        one('e', f.minus(f.infinite), 0, EXACT);
        s.of("Terms", "'l' the logarithm to the base 2: of a zero minus infinite, divided by zero; of less than 0 "
            + "invalid; of infinity infinite; of 1 it is +0.");
        one('l', 0, f.minus(f.infinite), DIVIDED);
        one('l', f.sign, f.minus(f.infinite), DIVIDED);
        one('l', f.minus(1), f.none, INVALID);
        one('l', f.minus(f.greatest), f.none, INVALID);
        one('l', f.minus(f.infinite), f.none, INVALID);
        one('l', f.infinite, f.infinite, EXACT);
        one('l', f.one, 0, EXACT);
        one('l', f.code(2), f.one, EXACT);
        one('l', f.code(0.5), f.minus(f.one), EXACT);
    }

    private void sines() {
        s.of("Terms", "'s' the sine, and 'c' the cosine, of it times the number pi: of an infinite one invalid");
        for (char function : "sc".toCharArray()) {
            one(function, f.infinite, f.none, INVALID);
            one(function, f.minus(f.infinite), f.none, INVALID);
        }
        s.of("Terms", "a sine that is 0 is a zero with the sign of the argument, a cosine that is 0 is +0.");
        for (double whole : new double[] {0, 1, 2, 3, 4, 6, 12, 64, 192}) {
            if (f.has(whole)) {
                one('s', f.code(whole), 0, EXACT);
                one('s', f.minus(f.code(whole)), f.sign, EXACT);
                int cosine = whole % 2 == 0 ? f.one : f.minus(f.one);
                one('c', f.code(whole), cosine, EXACT);
                one('c', f.minus(f.code(whole)), cosine, EXACT);
            }
        }
        for (double half : new double[] {0.5, 1.5, 2.5, 3.5, 7.5}) {
            if (f.has(half)) {
                one('c', f.code(half), 0, EXACT);
                one('c', f.minus(f.code(half)), 0, EXACT);
                int sine = (half - 0.5) % 2 == 0 ? f.one : f.minus(f.one);
                one('s', f.code(half), sine, EXACT);
                one('s', f.minus(f.code(half)), sine ^ f.sign, EXACT);
            }
        }
    }

    private void exactEnds() {
        s.of("Terms", "An infinite result of no overflow is exact, and so is a zero of an infinite argument.");
        int inf = f.infinite;
        for (char function : "qble".toCharArray()) {
            one(function, inf, inf, EXACT);
        }
        one('i', inf, 0, EXACT);
        one('r', inf, 0, EXACT);
        one('e', f.minus(inf), 0, EXACT);
        two('+', inf, f.greatest, inf, EXACT);
        two('*', inf, f.minus(1), f.minus(inf), EXACT);
        two('/', f.one, inf, 0, EXACT);
        two('/', inf, f.one, inf, EXACT);
        two('h', inf, f.one, inf, EXACT);
        two('p', f.code(0.5), inf, 0, EXACT);
        two('p', f.code(2), inf, inf, EXACT);
        fused(inf, f.one, f.one, inf, EXACT);
        fused(f.greatest, f.greatest, f.minus(inf), f.minus(inf), EXACT);
        for (char rounding : Spec.ROUNDINGS.toCharArray()) {
            Ulphouse x = f.house();
            s.due(x.convert(0, f.minus(inf), 0, rounding), f.minus(inf));
            s.due(x.flags(), EXACT);
        }
    }

    private void invalid() {
        s.of("Terms", "Whatever is invalid answers no number.");
        int inf = f.infinite;
        one('q', f.minus(f.one), f.none, INVALID);
        one('r', f.minus(f.one), f.none, INVALID);
        one('l', f.minus(f.one), f.none, INVALID);
        one('s', inf, f.none, INVALID);
        one('c', inf, f.none, INVALID);
        s.of("Terms", "'+', '-', '*', '/': infinite less infinite, 0 times infinite, 0 by 0 and infinite by infinite "
            + "are invalid");
        two('-', inf, inf, f.none, INVALID);
        two('-', f.minus(inf), f.minus(inf), f.none, INVALID);
        two('+', inf, f.minus(inf), f.none, INVALID);
        two('+', f.minus(inf), inf, f.none, INVALID);
        for (int signs = 0; signs < 4; signs++) {
            int zero = signs % 2 == 0 ? 0 : f.sign;
            int infinite = signs < 2 ? inf : f.minus(inf);
            two('*', zero, infinite, f.none, INVALID);
            two('*', infinite, zero, f.none, INVALID);
            two('/', zero, signs < 2 ? 0 : f.sign, f.none, INVALID);
            two('/', infinite, signs % 2 == 0 ? inf : f.minus(inf), f.none, INVALID);
        }
        two('+', inf, inf, inf, EXACT);
        two('-', inf, f.minus(inf), inf, EXACT);
        two('-', f.minus(inf), inf, f.minus(inf), EXACT);
    }

    // ---- two arguments

    private void sums() {
        s.of("Terms", "A sum, or a difference, of 0 of unlike signs of what is added is +0, by 'd' -0; of two zeros of "
            + "the same sign, this zero.");
        Ulphouse x = f.house();
        for (char rounding : Spec.ROUNDINGS.toCharArray()) {
            int zero = rounding == 'd' ? f.sign : 0;
            for (int bare : new int[] {0, 1, f.one, f.greatest}) {
                s.due(f.house().two(0, '+', bare, f.minus(bare), rounding), zero);
                s.due(f.house().two(0, '+', f.minus(bare), bare, rounding), zero);
                s.due(f.house().two(0, '-', bare, bare, rounding), zero);
                s.due(f.house().two(0, '-', f.minus(bare), f.minus(bare), rounding), zero);
            }
        }
        s.due(x.flags(), 0);
        two('+', 0, 0, 0, EXACT);
        two('+', f.sign, f.sign, f.sign, EXACT);
        two('-', 0, f.sign, 0, EXACT);
        two('-', f.sign, 0, f.sign, EXACT);
        two('+', f.one, f.sign, f.one, EXACT);
        two('-', 0, f.one, f.minus(f.one), EXACT);
    }

    private void productsAndQuotients() {
        s.of("Terms", "a finite one that is not 0, by a zero, is infinite, divided by zero");
        for (int bare : new int[] {1, f.one, f.greatest}) {
            two('/', bare, 0, f.infinite, DIVIDED);
            two('/', bare, f.sign, f.minus(f.infinite), DIVIDED);
            two('/', f.minus(bare), 0, f.minus(f.infinite), DIVIDED);
            two('/', f.minus(bare), f.sign, f.infinite, DIVIDED);
        }
        two('/', f.infinite, 0, f.infinite, EXACT);
        two('/', f.infinite, f.sign, f.minus(f.infinite), EXACT);
        s.of("Terms", "signs are as usual");
        for (int signs = 0; signs < 4; signs++) {
            int first = signs % 2 == 0 ? 0 : f.sign;
            int second = signs < 2 ? 0 : f.sign;
            int result = first ^ second;
            two('*', first, second, result, EXACT);
            two('*', first + f.one, second, result, EXACT);
            two('*', first, second + f.greatest, result, EXACT);
            two('*', first + f.one, second + f.code(2), result + f.code(2), EXACT);
            two('*', first + f.infinite, second + 1, result + f.infinite, EXACT);
            two('*', first + f.infinite, second + f.infinite, result + f.infinite, EXACT);
            two('/', first, second + 1, result, EXACT);
            two('/', first, second + f.infinite, result, EXACT);
            two('/', first + f.one, second + f.infinite, result, EXACT);
            two('/', first + f.code(2), second + f.one, result + f.code(2), EXACT);
            two('/', first + f.infinite, second + f.greatest, result + f.infinite, EXACT);
        }
    }

    private void hypotenuses() {
        s.of("Terms", "'h' the root of the sum of both squares: infinite if one is infinite, also with no number; "
            + "+0 for two zeros.");
        for (int infinite : new int[] {f.infinite, f.minus(f.infinite)}) {
            for (int other : new int[] {0, f.sign, 1, f.minus(f.greatest), f.infinite, f.minus(f.infinite), f.none,
                f.minus(f.sign - 1)}) {
                two('h', infinite, other, f.infinite, EXACT);
                two('h', other, infinite, f.infinite, EXACT);
            }
        }
        for (int signs = 0; signs < 4; signs++) {
            int first = signs % 2 == 0 ? 0 : f.sign;
            int second = signs < 2 ? 0 : f.sign;
            two('h', first, second, 0, EXACT);
            two('h', first + 1, second, 1, EXACT);
            two('h', first, second + f.greatest, f.greatest, EXACT);
        }
    }

    private void powersOfOne() {
        s.of("Terms", "'p' the first one to the power of the second one: 1 if the second one is a zero, or the first "
            + "one is 1, also with no number");
        int[] others = {0, f.sign, 1, f.minus(1), f.one, f.minus(f.one), f.greatest, f.minus(f.greatest), f.infinite,
            f.minus(f.infinite), f.none, f.minus(f.sign - 1)};
        for (int other : others) {
            two('p', other, 0, f.one, EXACT);
            two('p', other, f.sign, f.one, EXACT);
            two('p', f.one, other, f.one, EXACT);
        }
        two('p', f.none, f.one, f.none, EXACT);
        two('p', f.minus(f.one), f.none, f.none, EXACT);
        two('p', f.one + 1, f.none, f.none, EXACT);
        two('p', f.one - 1, f.none, f.none, EXACT);
        two('p', f.none, 1, f.none, EXACT);
    }

    private void powersByInfinite() {
        s.of("Terms", "for a second one that is infinite, 1 if the first one is -1, otherwise infinite or +0, by "
            + "whether the amount of the first one is above 1 or below it, the other way round for minus, all without "
            + "a flag, also with a zero as the first one");
        int inf = f.infinite;
        two('p', f.minus(f.one), inf, f.one, EXACT);
        two('p', f.minus(f.one), f.minus(inf), f.one, EXACT);
        for (int bare : new int[] {f.one + 1, f.greatest, inf}) {
            for (int first : new int[] {bare, f.minus(bare)}) {
                two('p', first, inf, inf, EXACT);
                two('p', first, f.minus(inf), 0, EXACT);
            }
        }
        for (int bare : new int[] {0, 1, f.one - 1}) {
            for (int first : new int[] {bare, f.minus(bare)}) {
                two('p', first, inf, 0, EXACT);
                two('p', first, f.minus(inf), inf, EXACT);
            }
        }
    }

    private void powersOfZero() {
        s.of("Terms", "for a zero as the first one, otherwise: with an odd second one, a zero, or if it is below 0 "
            + "infinite, divided by zero, with the sign of the first one; otherwise +0, or likewise plus infinite");
        for (double odd : new double[] {1, 3, 5, 7}) {
            if (f.has(odd)) {
                two('p', 0, f.code(odd), 0, EXACT);
                two('p', f.sign, f.code(odd), f.sign, EXACT);
                two('p', 0, f.code(-odd), f.infinite, DIVIDED);
                two('p', f.sign, f.code(-odd), f.minus(f.infinite), DIVIDED);
            }
        }
        for (int other : new int[] {1, f.code(0.5), f.code(1.5), f.code(2), f.greatest}) {
            boolean isOdd = f.amount(other) % 8192 == 4096;
            two('p', 0, other, 0, EXACT);
            two('p', f.sign, other, isOdd ? f.sign : 0, EXACT);
            two('p', 0, f.minus(other), f.infinite, DIVIDED);
            two('p', f.sign, f.minus(other), isOdd ? f.minus(f.infinite) : f.infinite, DIVIDED);
        }
    }

    private void powersOfInfinite() {
        s.of("Terms", "for an infinite first one: with an odd second one, infinite, or a zero if it is below 0, with "
            + "the sign of the first one; otherwise plus infinite or +0");
        int inf = f.infinite;
        for (double odd : new double[] {1, 3, 5, 7}) {
            if (f.has(odd)) {
                two('p', inf, f.code(odd), inf, EXACT);
                two('p', f.minus(inf), f.code(odd), f.minus(inf), EXACT);
                two('p', inf, f.code(-odd), 0, EXACT);
                two('p', f.minus(inf), f.code(-odd), f.sign, EXACT);
            }
        }
        for (int other : new int[] {1, f.code(0.5), f.code(1.5), f.code(2)}) {
            two('p', inf, other, inf, EXACT);
            two('p', f.minus(inf), other, inf, EXACT);
            two('p', inf, f.minus(other), 0, EXACT);
            two('p', f.minus(inf), f.minus(other), 0, EXACT);
        }
    }

    private void powersBelowZero() {
        s.of("Terms", "a first one below 0 with a finite second one that is not whole is invalid");
        for (int first : new int[] {1, f.one - 1, f.one, f.one + 1, f.greatest}) {
            for (int second : new int[] {1, f.code(0.5), f.code(1.5)}) {
                two('p', f.minus(first), second, f.none, INVALID);
                two('p', f.minus(first), f.minus(second), f.none, INVALID);
            }
        }
        s.of("Terms", "with an odd one, the result is minus.");
        two('p', f.minus(f.one), f.one, f.minus(f.one), EXACT);
        two('p', f.minus(f.one), f.minus(f.one), f.minus(f.one), EXACT);
        two('p', f.minus(f.one), f.code(2), f.one, EXACT);
        two('p', f.minus(f.one), f.code(-2), f.one, EXACT);
        two('p', f.code(-2), f.one, f.code(-2), EXACT);
        two('p', f.code(-2), f.minus(f.one), f.code(-0.5), EXACT);
        two('p', f.minus(f.greatest), f.one, f.minus(f.greatest), EXACT);
        if (f.has(3)) {
            two('p', f.minus(f.one), f.code(3), f.minus(f.one), EXACT);
            two('p', f.minus(f.one), f.code(-3), f.minus(f.one), EXACT);
        }
        if (f.has(8)) {
            two('p', f.code(-2), f.code(3), f.code(-8), EXACT);
            two('p', f.code(-2), f.code(2), f.code(4), EXACT);
        }
    }

    private void fused() {
        int inf = f.infinite;
        s.of("fused", "no number if one is no number, without a flag, ahead of all else.");
        for (int code : noNumberCodes()) {
            fused(code, 0, 0, f.none, EXACT);
            fused(0, code, inf, f.none, EXACT);
            fused(inf, 0, code, f.none, EXACT);
            fused(inf, f.one, code, f.none, EXACT);
            fused(code, inf, f.minus(inf), f.none, EXACT);
        }
        s.of("fused", "a times b plus c, each as a product and a sum of true results");
        for (int other : new int[] {0, f.one, inf, f.minus(inf)}) {
            fused(inf, 0, other, f.none, INVALID);
            fused(f.sign, inf, other, f.none, INVALID);
        }
        fused(inf, f.one, f.minus(inf), f.none, INVALID);
        fused(f.minus(1), inf, inf, f.none, INVALID);
        fused(inf, f.minus(inf), inf, f.none, INVALID);
        fused(inf, f.one, inf, inf, EXACT);
        fused(f.greatest, f.minus(f.greatest), inf, inf, EXACT);
        fused(0, f.greatest, f.minus(inf), f.minus(inf), EXACT);
        fused(0, 0, 0, 0, EXACT);
        fused(f.sign, 0, f.sign, f.sign, EXACT);
        fused(f.one, f.sign, f.sign, f.sign, EXACT);
        fused(0, f.greatest, 1, 1, EXACT);
        for (char rounding : Spec.ROUNDINGS.toCharArray()) {
            int zero = rounding == 'd' ? f.sign : 0;
            s.due(f.house().fused(0, f.sign, f.one, 0, rounding), zero);
            s.due(f.house().fused(0, 0, f.one, f.sign, rounding), zero);
            s.due(f.house().fused(0, f.one, f.one, f.minus(f.one), rounding), zero);
            s.due(f.house().fused(0, f.greatest, f.minus(f.one), f.greatest, rounding), zero);
        }
    }

    private void farOff() {
        s.of("Terms", "'e' 2 to the power of it.");
        for (int m = 1; m <= 6; m++) {
            f = new Spec(4, m);
            for (char rounding : Spec.ROUNDINGS.toCharArray()) {
                Ulphouse x = f.house();
                s.due(x.one(0, 'e', f.minus(f.greatest), rounding), rounding == 'u' ? 1 : 0);
                s.due(x.clearFlags(), 3);
                s.due(x.oneAnew(0, 'e', f.minus(f.greatest), rounding), rounding == 'u' ? 1 : 0);
                int top = rounding == 'z' || rounding == 'd' ? f.greatest : f.infinite;
                s.due(x.one(0, 'e', f.greatest, rounding), top);
                s.due(x.clearFlags(), 5);
                s.due(x.oneAnew(0, 'e', f.greatest, rounding), top);
                s.due(x.two(0, 'p', f.greatest, f.greatest, rounding), top);
                s.due(x.clearFlags(), 5);
                s.due(x.two(0, 'p', f.greatest, f.minus(f.greatest), rounding), rounding == 'u' ? 1 : 0);
                s.due(x.clearFlags(), 3);
                s.due(x.two(0, 'p', 1, f.greatest, rounding), rounding == 'u' ? 1 : 0);
                s.due(x.clearFlags(), 3);
                s.due(x.two(0, 'p', 1, f.minus(f.greatest), rounding), top);
                s.due(x.clearFlags(), 5);
            }
        }
    }

    /** Of 3 and 3 bits: 8 is 1/4, 16 1/2, 28 3/2, 33 9/4, 36 3, 40 4, 48 8, 49 9. */
    private void exactPowers() {
        s.of("Terms", "'p' the first one to the power of the second one");
        int[][] triples = {{40, 16, 32}, {40, 28, 48}, {8, 16, 16}, {49, 16, 36}, {33, 16, 28}, {40, 80, 16},
            {8, 80, 32}, {8, 92, 48}, {36, 32, 49}, {28, 32, 33}, {16, 96, 40}, {32, 36, 48}, {16, 42, 1}};
        for (int[] triple : triples) {
            two('p', triple[0], triple[1], triple[2], EXACT);
        }
        Ulphouse x = f.house();
        // 9/4 to the power of 3/2 is 27/8, the midpoint of 13/4 and 7/2
        s.due(x.two(0, 'p', 33, 28, 'n'), 38);
        s.due(x.two(0, 'p', 33, 28, 'z'), 37);
        s.due(x.two(0, 'p', 33, 28, 'a'), 38);
        s.due(x.clearFlags(), 1);
        Spec wide = new Spec(4, 6);
        Ulphouse y = wide.house();
        // 17/16 squared is 72 and a quarter of 64ths, 24/16 to the power of 7 is 17.08
        s.due(y.two(0, 'p', wide.code(1.0625), wide.code(2), 'n'), wide.code(1.125));
        s.due(y.clearFlags(), 1);
        s.due(y.two(0, 'p', wide.code(1.5), wide.code(7), 'd'), wide.code(17));
        s.due(y.clearFlags(), 1);
        s.due(y.two(0, 'p', wide.code(1.5), wide.code(4), 'n'), wide.code(5.0625));
        s.due(y.clearFlags(), 0);
    }

    // ---- promises 10 to 14, by the format of 3 and 3 bits: 24 is 1, 55 is 15, 56 infinite, 60 no number

    private void roundedOnce() {
        s.of("Terms", "Each answer is the true one, rounded once.");
        Ulphouse x = f.house();
        // 9/8 times 9/8 is 81/64, whose rounding loses 1/64
        s.due(x.fused(0, 25, 25, 1, 'z'), 26);
        s.due(x.fused(0, 25, 25, 90, 'u'), 1);
        // the product overflows, the sum does not
        s.due(x.clearFlags() & 4, 0);
        s.due(x.fused(0, 55, 32, 119, 'n'), 55);
        s.due(x.clearFlags(), 0);
        // 2 to the power of 1/2 is above 11/8 and its midpoint, 1.4375, by nothing that fewer digits tell
        s.due(x.two(0, 'p', 32, 16, 'n'), 27);
        s.due(x.two(0, 'p', 32, 16, 'u'), 28);
        s.due(x.clearFlags(), 1);
    }

    private interface OfNumber {
        long ask(int number);
    }

    private interface OfSign {
        long ask(char sign);
    }

    private void wrongFormats(OfNumber call) {
        for (int format : new int[] {-1, 1, 6, Integer.MIN_VALUE, Integer.MAX_VALUE}) {
            s.refused("format " + format, INDEX, () -> call.ask(format));
        }
    }

    private void wrongCodes(OfNumber call) {
        for (int code : new int[] {-1, 128, Integer.MIN_VALUE, Integer.MAX_VALUE}) {
            s.refused("code " + code, INDEX, () -> call.ask(code));
        }
    }

    private void wrongSigns(String alsoWrong, OfSign call) {
        for (char sign : (alsoWrong + "QNx \u0000\u016e\u0171\uffff").toCharArray()) {
            s.refused("sign " + (int) sign, ARGUMENT, () -> call.ask(sign));
        }
    }

    private void promise10() {
        Ulphouse x = f.house();
        s.of("one", "Answers a function of one argument.");
        char[] functions = Spec.SINGLES.toCharArray();
        // of 4, in the order of the letters: 2, 1.587, 1/4, 1/2, 16, 2, 0 and 1
        int[] dues = {32, 29, 8, 16, 56, 32, 0, 24};
        int[] flags = {0, 1, 0, 0, 5, 0, 0, 0};
        for (int i = 0; i < 8; i++) {
            s.due(x.one(0, functions[i], 40, 'n'), dues[i]);
            s.due(x.clearFlags(), flags[i]);
        }
        s.of("one", "Returns the code of the answer.");
        s.due(x.one(0, 'q', 42, 'n'), 33);
        s.due(x.one(0, 'e', 88, 'n'), 16);
        s.of("one", "Throws `IndexOutOfBoundsException` if there is no such format, or no such code of it");
        wrongFormats(format -> x.one(format, 'q', 0, 'n'));
        wrongCodes(code -> x.one(0, 'q', code, 'n'));
        s.of("one", "Throws `IllegalArgumentException` if there is no such function or rounding");
        wrongSigns("+-*/hpa", sign -> f.house().one(0, sign, 24, 'n'));
        wrongSigns("qbircels", sign -> f.house().one(0, 'q', 24, sign));
        wrongSigns("x", sign -> f.house().one(0, 'q', 57, sign));
    }

    private void promise11() {
        Ulphouse x = f.house();
        s.of("two", "Answers a function of two arguments.");
        char[] functions = "+-*/hp".toCharArray();
        // 4 and 3: 7, 1, 12, 1.333, 5 and 64
        int[] dues = {46, 24, 52, 27, 42, 56};
        int[] flags = {0, 0, 0, 1, 0, 5};
        for (int i = 0; i < 6; i++) {
            s.due(x.two(0, functions[i], 40, 36, 'n'), dues[i]);
            s.due(x.clearFlags(), flags[i]);
        }
        s.of("two", "Returns the code of the answer.");
        s.due(x.two(0, '-', 36, 40, 'n'), 88);
        s.due(x.two(0, 'p', 36, 32, 'n'), 49);
        s.of("two", "Throws `IndexOutOfBoundsException` if there is no such format, or no such code, for either");
        wrongFormats(format -> x.two(format, '+', 0, 0, 'n'));
        wrongCodes(code -> x.two(0, '+', code, 0, 'n'));
        wrongCodes(code -> x.two(0, '+', 0, code, 'n'));
        s.of("two", "Throws `IllegalArgumentException` if there is no such function or rounding");
        wrongSigns("qbirelsc", sign -> f.house().two(0, sign, 24, 24, 'n'));
        wrongSigns("hp", sign -> f.house().two(0, '+', 24, 24, sign));
        wrongSigns("x", sign -> f.house().two(0, sign, 57, 57, 'n'));
    }

    private void promise12() {
        Ulphouse x = f.house();
        s.of("fused", "Answers a product and a sum, rounded once");
        s.due(x.fused(0, 36, 32, 24, 'n'), 46);
        s.due(x.fused(0, 25, 25, 88, 'n'), 8);
        s.of("fused", "Returns the code of the answer.");
        s.due(x.fused(0, 24, 25, 0, 'n'), 25);
        s.of("fused", "Throws `IndexOutOfBoundsException` if there is no such format, or no such code, for any");
        wrongFormats(format -> x.fused(format, 0, 0, 0, 'n'));
        wrongCodes(code -> x.fused(0, code, 0, 0, 'n'));
        wrongCodes(code -> x.fused(0, 0, code, 0, 'n'));
        wrongCodes(code -> x.fused(0, 0, 0, code, 'n'));
        s.of("fused", "Throws `IllegalArgumentException` if there is no such rounding");
        wrongSigns("+*", sign -> f.house().fused(0, 24, 24, 24, sign));
        wrongSigns("+*", sign -> f.house().fused(0, 57, 24, 24, sign));
    }

    private void promise13() {
        s.of("oneAnew", "Answers a function in the other way, without what was kept and without flags: values are "
            + "tried from the lowest one on.");
        Ulphouse x = new Ulphouse();
        x.format(3, 3);
        for (char function : Spec.SINGLES.toCharArray()) {
            for (int code : new int[] {0, 1, 24, 25, 40, 55, 56, 60, 64, 65, 88, 119, 120}) {
                Ulphouse y = f.house();
                s.due(f.house().oneAnew(0, function, code, 'u'), y.one(0, function, code, 'u'));
            }
        }
        x.oneAnew(0, 'e', 55, 'n');
        x.oneAnew(0, 'q', 120, 'n');
        x.oneAnew(0, 'l', 0, 'n');
        s.due(x.flags(), 0);
        s.of("oneAnew", "Returns the code of the answer.");
        s.due(x.oneAnew(0, 'e', 40, 'z'), 55);
        s.due(x.oneAnew(0, 'e', 40, 'u'), 56);
        s.due(x.oneAnew(0, 'e', 119, 'u'), 1);
        s.due(x.oneAnew(0, 'e', 119, 'n'), 0);
        s.of("oneAnew", "Throws `IndexOutOfBoundsException` if there is no such format, or no such code of it");
        wrongFormats(format -> x.oneAnew(format, 'q', 0, 'n'));
        wrongCodes(code -> x.oneAnew(0, 'q', code, 'n'));
        s.of("oneAnew", "Throws `IllegalArgumentException` if there is no such function or rounding");
        wrongSigns("+-*/hpa", sign -> f.house().oneAnew(0, sign, 24, 'n'));
        wrongSigns("qbircels", sign -> f.house().oneAnew(0, 'q', 24, sign));
        wrongSigns("x", sign -> f.house().oneAnew(0, 'q', 57, sign));
    }

    private void promise14() {
        Ulphouse x = f.house();
        s.of("compare", "Compares two codes by value.");
        int[] rising = {120, 119, 65, 64, 1, 8, 24, 55, 56};
        for (int i = 0; i + 1 < rising.length; i++) {
            s.due(x.compare(0, rising[i], rising[i + 1]), 'l');
            s.due(x.compare(0, rising[i + 1], rising[i]), 'g');
            s.due(f.house().compare(0, rising[i], rising[i]), 'e');
        }
        s.of("compare", "Returns 'l' less, 'g' greater, 'e' alike, both zeros being alike, 'u' unordered with no "
            + "number; it looks.");
        Ulphouse y = f.house();
        s.due(y.compare(0, 0, 64), 'e');
        s.due(y.compare(0, 64, 0), 'e');
        s.due(y.compare(0, 64, 1), 'l');
        s.due(y.compare(0, 0, 65), 'g');
        s.due(y.compare(0, 120, 56), 'l');
        s.due(y.compare(0, 56, 56), 'e');
        for (int code : new int[] {57, 60, 63, 121, 127}) {
            s.due(y.compare(0, code, code), 'u');
            s.due(y.compare(0, code, 0), 'u');
            s.due(y.compare(0, 56, code), 'u');
        }
        s.due(y.flags(), 0);
        s.of("compare", "Throws `IndexOutOfBoundsException` if there is no such format, or no such code, for either");
        wrongFormats(format -> f.house().compare(format, 0, 0));
        wrongCodes(code -> f.house().compare(0, code, 0));
        wrongCodes(code -> f.house().compare(0, 57, code));
    }
}
