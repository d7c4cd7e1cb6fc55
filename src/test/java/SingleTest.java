/** Functions of one argument: every format, function, code and rounding, with the flags (promises 10 and 13). */
public final class SingleTest {
    private final Tally tally = new Tally();

    public static void main(String[] args) {
        SingleTest test = new SingleTest();
        for (int exponents = 2; exponents <= 4; exponents++) {
            for (int fractions = 1; fractions <= 6; fractions++) {
                test.all(exponents, fractions);
            }
        }
        test.tally.close("SingleTest");
    }

    private void all(int exponents, int fractions) {
        Oracle oracle = new Oracle(exponents, fractions);
        Houses houses = new Houses(exponents, fractions);
        for (char function : Oracle.SINGLES.toCharArray()) {
            for (int code = 0; code < oracle.size(); code++) {
                for (char rounding : Oracle.ROUNDINGS.toCharArray()) {
                    ask(houses.forCalls(3), oracle, function, code, rounding);
                }
            }
        }
    }

    private void ask(Ulphouse house, Oracle oracle, char function, int code, char rounding) {
        String what = "(" + oracle.exponents + "," + oracle.fractions + ") " + function + " " + code + " " + rounding;
        oracle.flags = 0;
        int want = oracle.one(function, code, rounding);
        tally.due("one " + what, house.one(0, function, code, rounding), want);
        tally.due("oneAnew " + what, house.oneAnew(0, function, code, rounding), want);
        tally.due("flags of one " + what, house.clearFlags(), oracle.flags);
    }
}
