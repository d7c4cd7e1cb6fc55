import java.util.ArrayList;
import java.util.List;

/** A format as the document's words tell it, and houses that hold just this one, as their format 0. */
final class Spec {
    static final String SINGLES = "qbirelsc";
    static final String ROUNDINGS = "nazud";
    final int exponents;
    final int fractions;
    final int bias;
    final int sign;
    final int infinite;
    final int none;
    final int one;
    final int greatest;
    final int leastNormal;
    private final Houses houses;

    Spec(int exponents, int fractions) {
        this.exponents = exponents;
        this.fractions = fractions;
        bias = (1 << exponents - 1) - 1;
        sign = 1 << exponents + fractions;
        infinite = sign - (1 << fractions);
        none = infinite + (1 << fractions - 1);
        one = bias << fractions;
        greatest = infinite - 1;
        leastNormal = 1 << fractions;
        houses = new Houses(exponents, fractions);
    }

    static List<Spec> all() {
        List<Spec> found = new ArrayList<>();
        for (int e = 2; e <= 4; e++) {
            for (int m = 1; m <= 6; m++) {
                found.add(new Spec(e, m));
            }
        }
        return found;
    }

    String name() {
        return "(" + exponents + "," + fractions + ")";
    }

    int size() {
        return 2 * sign;
    }

    int minus(int bare) {
        return bare + sign;
    }

    /** A house whose flags are clear; it is used for at most 40 calls. */
    Ulphouse house() {
        Ulphouse house = houses.forCalls(41);
        house.clearFlags();
        return house;
    }

    /** In units of 2 to the power of -12, of a bare finite code. */
    int amount(int bare) {
        int x = bare >> fractions;
        int f = bare % (1 << fractions);
        int unit = 12 - bias - fractions;
        return x == 0 ? f << 1 + unit : ((1 << fractions) + f) << x + unit;
    }

    /** The code of a value that the format has. */
    int code(double value) {
        double amount = value < 0 ? -value : value;
        for (int bare = 0; bare < infinite; bare++) {
            if (amount(bare) / 4096.0 == amount) {
                return value < 0 ? minus(bare) : bare;
            }
        }
        throw new IllegalArgumentException(name() + " does not have " + value);
    }

    boolean has(double value) {
        for (int bare = 0; bare < infinite; bare++) {
            if (amount(bare) / 4096.0 == Math.abs(value)) {
                return true;
            }
        }
        return false;
    }
}
