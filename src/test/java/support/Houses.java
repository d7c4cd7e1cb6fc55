/** Houses that hold the same formats, each used for fewer calls than a house is good for. */
final class Houses {
    private static final int MOST_CALLS = 500;
    private final int[] exponents;
    private final int[] fractions;
    private Ulphouse house;
    private int calls;

    Houses(int... pairs) {
        exponents = new int[pairs.length / 2];
        fractions = new int[pairs.length / 2];
        for (int i = 0; i < exponents.length; i++) {
            exponents[i] = pairs[2 * i];
            fractions[i] = pairs[2 * i + 1];
        }
        calls = MOST_CALLS;
    }

    /** A house that is good for so many calls more. */
    Ulphouse forCalls(int more) {
        if (calls + more > MOST_CALLS) {
            house = new Ulphouse();
            for (int i = 0; i < exponents.length; i++) {
                house.format(exponents[i], fractions[i]);
            }
            calls = exponents.length;
        }
        calls += more;
        return house;
    }
}
