import java.util.ArrayList;
import java.util.List;

/** What is refused: 'Exceptions', at the end of 'Terms', for each method of the face. */
final class EdgesOfRefusals {
    private static final Class<? extends Exception> INDEX = Sentences.INDEX;
    private static final Class<? extends Exception> ARGUMENT = Sentences.ARGUMENT;
    private static final Class<? extends Exception> STATE = Sentences.STATE;
    private static final Class<? extends Exception> ARITHMETIC = Sentences.ARITHMETIC;
    private static final Class<? extends Exception> ELEMENT = Sentences.ELEMENT;
    private static final int BAD = Integer.MAX_VALUE;
    private final Sentences s;
    private final List<Refusal> refusals = new ArrayList<>();

    private interface Call {
        void ask(Ulphouse x);
    }

    private static final class Refusal {
        final String about;
        final Class<? extends Exception> kind;
        final Call call;

        Refusal(String about, Class<? extends Exception> kind, Call call) {
            this.about = about;
            this.kind = kind;
            this.call = call;
        }
    }

    EdgesOfRefusals(Sentences s) {
        this.s = s;
    }

    void all() {
        inFull();
        askAll("a full house", 0);
        askAll("a full house without flags", 1);
        refusals.clear();
        inSmall();
        askAll("a small house", 2);
        refusals.clear();
        inNew();
        askAll("a new house", 3);
    }

    private void add(String about, Class<? extends Exception> kind, Call call) {
        refusals.add(new Refusal(about, kind, call));
    }

    private void askAll(String where, int which) {
        for (Refusal each : refusals) {
            String about = where + ", " + each.about;
            s.of("Terms", "If several exceptions apply, the exception listed first is thrown.");
            Ulphouse asked = house(which);
            s.refused(about, each.kind, () -> each.call.ask(asked));
            s.of("Terms", "A method that throws an exception changes nothing.");
            String due = seen(house(which));
            String got = seen(asked);
            s.holds(about + ": " + got + ", due is " + due, got.equals(due));
        }
    }

    // ---- houses

    private static Ulphouse house(int which) {
        return which == 3 ? new Ulphouse() : which == 2 ? small() : full(which == 0);
    }

    /** With 6 formats, 20 codes in the row, 10 signs in the text, and 12 certificates. */
    private static Ulphouse full(boolean isFlagged) {
        Ulphouse x = new Ulphouse();
        int[] bits = {3, 3, 3, 5, 2, 1, 4, 6, 3, 2, 3, 3};
        for (int i = 0; i < 12; i += 2) {
            x.format(bits[i], bits[i + 1]);
        }
        for (int i = 0; i < 20; i++) {
            x.add(0, 8 + i);
        }
        for (char sign : "-01.062500".toCharArray()) {
            x.type(sign);
        }
        for (char function : "bs".toCharArray()) {
            for (char rounding : Spec.ROUNDINGS.toCharArray()) {
                x.certify(0, function, rounding);
            }
        }
        x.certify(2, 'e', 'n');
        x.certify(5, 's', 'n');
        if (isFlagged) {
            x.two(0, '/', 24, 0, 'n');
            x.two(0, '/', 0, 0, 'n');
            x.two(0, '*', 55, 55, 'n');
            x.two(0, '*', 1, 1, 'n');
        }
        return x;
    }

    /** With one format, no number in the text, a row with an infinite code, and one certificate. */
    private static Ulphouse small() {
        Ulphouse x = new Ulphouse();
        x.format(3, 3);
        x.add(0, 24);
        x.add(0, 56);
        x.type('-');
        x.certify(0, 'i', 'n');
        x.one(0, 'q', 65, 'n');
        return x;
    }

    private interface Ask {
        Object ask();
    }

    private static String asked(Ask ask) {
        try {
            return ask.ask() + " ";
        } catch (RuntimeException e) {
            return e.getClass().getSimpleName() + " ";
        }
    }

    /** All that calls can tell of a house; it is of no use after that. */
    private static String seen(Ulphouse x) {
        StringBuilder all = new StringBuilder();
        all.append(x.flags()).append(' ').append(x.certificates()).append(' ');
        for (char how : "pced".toCharArray()) {
            all.append(asked(() -> x.sum(how, 'd')));
        }
        for (char function : "bsie".toCharArray()) {
            all.append(asked(() -> x.check(0, function, 'n')));
        }
        all.append(asked(() -> x.check(2, 'e', 'n'))).append(asked(() -> x.check(5, 's', 'n')));
        all.append(asked(() -> x.certify(0, 'q', 'n')));
        all.append(asked(() -> x.isTrue()));
        all.append(asked(() -> x.add(0, 25))).append(asked(() -> x.sum('e', 'n')));
        all.append(x.empty()).append(' ');
        all.append(asked(() -> x.type('1'))).append(asked(() -> x.read(0, 'u')));
        all.append(x.erase()).append(' ').append(x.clearFlags()).append(' ');
        for (int i = 0; i < 6; i++) {
            int format = i;
            all.append(asked(() -> x.codes(format)));
        }
        all.append(asked(() -> x.format(4, 4)));
        return all.toString();
    }

    // ---- what a full house refuses

    private void inFull() {
        formatsAndFlags();
        functions();
        rows();
        hardCases();
        texts();
        certificates();
    }

    private void formatsAndFlags() {
        add("format: range, and 6 are told", ARGUMENT, x -> x.format(1, 3));
        add("format: range, and 6 are told", ARGUMENT, x -> x.format(3, 7));
        add("format: 6 are told", STATE, x -> x.format(3, 3));
        add("codes", INDEX, x -> x.codes(6));
        add("value: no format", INDEX, x -> x.value(6, 56));
        add("value: no code", INDEX, x -> x.value(0, 128));
        add("value: not finite", ARITHMETIC, x -> x.value(0, 56));
        add("kind: no format", INDEX, x -> x.kind(-1, 0));
        add("kind: no code", INDEX, x -> x.kind(0, -1));
        add("above: no format", INDEX, x -> x.above(6, 56));
        add("above: no code", INDEX, x -> x.above(0, 128));
        add("above: infinite", ELEMENT, x -> x.above(0, 56));
        add("convert: no format, no rounding", INDEX, x -> x.convert(6, 25, 4, 'x'));
        add("convert: no other format, no rounding", INDEX, x -> x.convert(0, 25, 6, 'x'));
        add("convert: no code, no rounding", INDEX, x -> x.convert(0, 128, 4, 'x'));
        add("convert: no rounding", ARGUMENT, x -> x.convert(0, 25, 4, 'x'));
    }

    private void functions() {
        add("one: no format, nothing else", INDEX, x -> x.one(6, 'x', BAD, 'x'));
        add("one: no code, no function", INDEX, x -> x.one(0, 'x', 128, 'n'));
        add("one: no code, no rounding", INDEX, x -> x.one(0, 'i', -1, 'x'));
        add("one: no function", ARGUMENT, x -> x.one(0, '/', 0, 'n'));
        add("one: no rounding, divided by zero", ARGUMENT, x -> x.one(0, 'i', 0, 'x'));
        add("one: no rounding, invalid", ARGUMENT, x -> x.one(0, 'q', 65, 'x'));
        add("two: no format, nothing else", INDEX, x -> x.two(6, 'x', BAD, BAD, 'x'));
        add("two: no code, no function", INDEX, x -> x.two(0, 'x', 128, 0, 'n'));
        add("two: no other code, no rounding", INDEX, x -> x.two(0, '/', 0, 128, 'x'));
        add("two: no function", ARGUMENT, x -> x.two(0, 'q', 24, 24, 'n'));
        add("two: no rounding, divided by zero", ARGUMENT, x -> x.two(0, '/', 24, 0, 'x'));
        add("two: no rounding, overflow", ARGUMENT, x -> x.two(0, '*', 55, 55, 'x'));
        add("fused: no format, no rounding", INDEX, x -> x.fused(6, 0, 0, 0, 'x'));
        add("fused: no code, no rounding", INDEX, x -> x.fused(0, 128, 0, 0, 'x'));
        add("fused: no second code, no rounding", INDEX, x -> x.fused(0, 0, 128, 0, 'x'));
        add("fused: no third code, no rounding", INDEX, x -> x.fused(0, 0, 0, 128, 'x'));
        add("fused: no rounding, overflow", ARGUMENT, x -> x.fused(0, 55, 55, 55, 'x'));
        add("oneAnew: no format, nothing else", INDEX, x -> x.oneAnew(6, 'x', BAD, 'x'));
        add("oneAnew: no code, nothing else", INDEX, x -> x.oneAnew(0, 'x', 128, 'x'));
        add("oneAnew: no function", ARGUMENT, x -> x.oneAnew(0, '+', 0, 'n'));
        add("oneAnew: no rounding", ARGUMENT, x -> x.oneAnew(0, 'i', 0, 'x'));
        add("compare: no format", INDEX, x -> x.compare(6, 0, 0));
        add("compare: no code", INDEX, x -> x.compare(0, 128, 0));
        add("compare: no other code", INDEX, x -> x.compare(0, 0, 128));
    }

    private void rows() {
        add("rest: no format, no function, not finite", INDEX, x -> x.rest(6, 'x', 56, 56));
        add("rest: no code, no function", INDEX, x -> x.rest(0, 'x', 128, 56));
        add("rest: no other code, not finite", INDEX, x -> x.rest(0, '+', 56, 128));
        add("rest: no function, not finite", ARGUMENT, x -> x.rest(0, '-', 56, 56));
        add("rest: no function", ARGUMENT, x -> x.rest(0, '/', 24, 24));
        add("rest: not finite", ARITHMETIC, x -> x.rest(0, '*', 56, 1));
        add("rest: result not finite", ARITHMETIC, x -> x.rest(0, '*', 55, 53));
        add("rest: no value", ELEMENT, x -> x.rest(0, '*', 25, 25));
        add("add: no format, full", INDEX, x -> x.add(6, 0));
        add("add: no code, full", INDEX, x -> x.add(0, 128));
        add("add: no code of another format", INDEX, x -> x.add(2, 16));
        add("add: full", STATE, x -> x.add(0, 24));
        add("sum: no way, no rounding", ARGUMENT, x -> x.sum('x', 'x'));
        add("sum: no way", ARGUMENT, x -> x.sum('x', 'n'));
        add("sum: no rounding", ARGUMENT, x -> x.sum('p', 'x'));
        add("digit: no format, not finite", INDEX, x -> x.digit(6, 56, 0, 0));
        add("digit: no code, a zero", INDEX, x -> x.digit(0, 128, 0, 0));
        add("digit: no other code, a zero", INDEX, x -> x.digit(0, 0, 128, 0));
        add("digit: no index, a zero", INDEX, x -> x.digit(0, 0, 0, 30));
        add("digit: no index, not finite", INDEX, x -> x.digit(0, 56, 24, -1));
        add("digit: a zero", ARITHMETIC, x -> x.digit(0, 24, 64, 0));
    }

    private void hardCases() {
        add("quarter: no format", INDEX, x -> x.quarter(6, 56));
        add("quarter: no code", INDEX, x -> x.quarter(0, 128));
        add("quarter: not finite", ARITHMETIC, x -> x.quarter(0, 57));
        add("reduced: no format", INDEX, x -> x.reduced(6, 56));
        add("reduced: no code", INDEX, x -> x.reduced(0, 128));
        add("reduced: not finite", ARITHMETIC, x -> x.reduced(0, 57));
        add("cancels: no format", INDEX, x -> x.cancels(6));
        add("hardest: no format, no function", INDEX, x -> x.hardest(6, 'x'));
        add("hardest: no function, none", ARGUMENT, x -> x.hardest(2, 'x'));
        add("hardest: none", ELEMENT, x -> x.hardest(2, 's'));
        add("distance: no format, no function", INDEX, x -> x.distance(6, 'x', 0));
        add("distance: no code, no function", INDEX, x -> x.distance(0, 'x', 128));
        add("distance: no function, none of those", ARGUMENT, x -> x.distance(0, 'x', 57));
        add("distance: none of those", ELEMENT, x -> x.distance(0, 'i', 0));
        add("slow: no format, no function", INDEX, x -> x.slow(6, 0, 'x'));
        add("slow: no other format, no function", INDEX, x -> x.slow(0, 6, 'x'));
        add("slow: no function", ARGUMENT, x -> x.slow(0, 1, 'x'));
        add("slow: not wider", ARGUMENT, x -> x.slow(0, 5, 'q'));
        add("wrong: no format, no function", INDEX, x -> x.wrong(6, 0, 'x'));
        add("wrong: no other format, no function", INDEX, x -> x.wrong(0, 6, 'x'));
        add("wrong: no function", ARGUMENT, x -> x.wrong(0, 1, 'x'));
        add("wrong: not wider", ARGUMENT, x -> x.wrong(0, 4, 'q'));
        add("place: no format, nothing else", INDEX, x -> x.place(6, 'x', BAD, 17));
        add("place: no code, no function", INDEX, x -> x.place(0, 'x', 128, 17));
        add("place: no function, none counts", ARGUMENT, x -> x.place(0, 'x', 57, 0));
        add("place: range, none counts", ARGUMENT, x -> x.place(0, 'q', 100, 17));
        add("place: none counts", ELEMENT, x -> x.place(0, 'q', 100, 16));
        add("line: no format, nothing else", INDEX, x -> x.line(6, 'x', 1, 0));
        add("line: no code, no function", INDEX, x -> x.line(0, 'x', 128, 0));
        add("line: no last code, out of range", INDEX, x -> x.line(0, 'q', 0, 128));
        add("line: no function, not finite", ARGUMENT, x -> x.line(0, 'x', 56, 57));
        add("line: out of range, not finite", ARGUMENT, x -> x.line(0, 'q', 40, 64));
        add("line: below, not finite", ARGUMENT, x -> x.line(0, 'q', 58, 57));
        add("line: not finite", ARITHMETIC, x -> x.line(0, 'q', 40, 63));
        add("polynomial: no format", INDEX, x -> x.polynomial(6, 0, 0, 0, 0, true));
        add("polynomial: no code", INDEX, x -> x.polynomial(0, 0, 0, 128, 0, true));
        add("error: no format, not finite", INDEX, x -> x.error(6, 56, 0, 0, 0, true));
        add("error: no code, not finite", INDEX, x -> x.error(0, 56, 0, 0, 128, true));
        add("error: not finite", ARITHMETIC, x -> x.error(0, 0, 0, 0, 57, false));
        add("error: value not finite", ARITHMETIC, x -> x.error(0, 55, 55, 55, 55, false));
    }

    private void texts() {
        add("type: no sign, full", ARGUMENT, x -> x.type('+'));
        add("type: full", STATE, x -> x.type('0'));
        add("read: no format, no rounding", INDEX, x -> x.read(6, 'x'));
        add("read: no rounding", ARGUMENT, x -> x.read(0, 'x'));
        add("digits: no format, a zero", INDEX, x -> x.digits(6, 0));
        add("digits: no code", INDEX, x -> x.digits(0, 128));
        add("digits: a zero", ARITHMETIC, x -> x.digits(0, 64));
        add("power: no format, a zero", INDEX, x -> x.power(6, 0));
        add("power: no code", INDEX, x -> x.power(0, 128));
        add("power: not finite", ARITHMETIC, x -> x.power(0, 120));
    }

    private void certificates() {
        add("certify: no format, nothing else", INDEX, x -> x.certify(6, 'x', 'x'));
        add("certify: no function, 12 are kept", ARGUMENT, x -> x.certify(0, 'x', 'n'));
        add("certify: no rounding, 12 are kept", ARGUMENT, x -> x.certify(0, 'q', 'x'));
        add("certify: too many codes, 12 are kept", ARGUMENT, x -> x.certify(3, 'q', 'n'));
        add("certify: 12 are kept", STATE, x -> x.certify(0, 'q', 'n'));
        add("check: no format, nothing else", INDEX, x -> x.check(6, 'x', 'x'));
        add("check: no function", ARGUMENT, x -> x.check(0, 'x', 'n'));
        add("check: no rounding, not kept", ARGUMENT, x -> x.check(0, 'q', 'x'));
        add("check: not kept", ELEMENT, x -> x.check(0, 'q', 'n'));
        add("check: too many codes, not kept", ELEMENT, x -> x.check(3, 'q', 'n'));
        add("isMonotone: no format, nothing else", INDEX, x -> x.isMonotone(6, 'x', 'x'));
        add("isMonotone: no function", ARGUMENT, x -> x.isMonotone(0, 'x', 'n'));
        add("isMonotone: no rounding", ARGUMENT, x -> x.isMonotone(0, 'q', 'x'));
        add("floatBits: no format", INDEX, x -> x.floatBits(6, 56));
        add("floatBits: no code", INDEX, x -> x.floatBits(0, 128));
        add("floatBits: not finite", ARITHMETIC, x -> x.floatBits(0, 56));
        add("finiteShare: no format", INDEX, x -> x.finiteShare(6));
        add("meanValue: no format", INDEX, x -> x.meanValue(6));
    }

    // ---- what a small house refuses

    private void inSmall() {
        add("format: range", ARGUMENT, x -> x.format(5, 3));
        add("codes", INDEX, x -> x.codes(1));
        add("add: no format", INDEX, x -> x.add(1, 0));
        add("add: no code", INDEX, x -> x.add(0, 128));
        for (char how : "pced".toCharArray()) {
            add("sum: no rounding, not finite", ARGUMENT, x -> x.sum(how, 'x'));
            add("sum: not finite", ARITHMETIC, x -> x.sum(how, 'n'));
        }
        add("sum: no way, not finite", ARGUMENT, x -> x.sum('x', 'n'));
        add("type: no sign", ARGUMENT, x -> x.type('x'));
        add("read: no format, no text", INDEX, x -> x.read(1, 'n'));
        add("read: no rounding, no text", ARGUMENT, x -> x.read(0, 'x'));
        add("read: no text", ELEMENT, x -> x.read(0, 'n'));
        add("certify: no format", INDEX, x -> x.certify(1, 'i', 'n'));
        add("certify: no rounding", ARGUMENT, x -> x.certify(0, 'i', 'x'));
        add("check: not kept", ELEMENT, x -> x.check(0, 'i', 'a'));
        add("check: no function, not kept", ARGUMENT, x -> x.check(0, 'x', 'a'));
        add("convert: no other format", INDEX, x -> x.convert(0, 25, 1, 'n'));
        add("one: no rounding", ARGUMENT, x -> x.one(0, 'e', 55, 'x'));
        add("slow: not wider", ARGUMENT, x -> x.slow(0, 0, 'q'));
        add("distance: none of those", ELEMENT, x -> x.distance(0, 'e', 55));
        add("line: not finite", ARITHMETIC, x -> x.line(0, 'e', 33, 56));
    }

    // ---- what a new house refuses

    private void inNew() {
        add("format: range", ARGUMENT, x -> x.format(2, 0));
        add("sum: no way, no format", ARGUMENT, x -> x.sum('x', 'n'));
        add("sum: no rounding, no format", ARGUMENT, x -> x.sum('e', 'x'));
        add("sum: no format", ELEMENT, x -> x.sum('e', 'n'));
        add("sum: no format", ELEMENT, x -> x.sum('p', 'd'));
        add("codes", INDEX, x -> x.codes(0));
        add("value", INDEX, x -> x.value(0, 0));
        add("add", INDEX, x -> x.add(0, 0));
        add("type: no sign", ARGUMENT, x -> x.type(','));
        add("read", INDEX, x -> x.read(0, 'n'));
        add("convert", INDEX, x -> x.convert(0, 0, 0, 'n'));
        add("one", INDEX, x -> x.one(0, 'q', 0, 'n'));
        add("two", INDEX, x -> x.two(0, '+', 0, 0, 'n'));
        add("slow", INDEX, x -> x.slow(0, 0, 'q'));
        add("certify", INDEX, x -> x.certify(0, 'q', 'n'));
        add("check", INDEX, x -> x.check(0, 'q', 'n'));
        add("meanValue", INDEX, x -> x.meanValue(0));
    }
}
