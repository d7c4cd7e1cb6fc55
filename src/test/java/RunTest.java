import java.lang.reflect.InvocationTargetException;
import java.lang.reflect.Method;
import java.util.Arrays;
import java.util.HashMap;
import java.util.Map;
import java.util.Random;

/** Whole runs of calls, right and wrong ones, drawn by a fixed seed: each answers as the document's words do. */
public final class RunTest {
    private static final int RUNS = 150;
    private static final int CALLS = 512;
    /** F a format, C a code, S and P functions, A '+' or '*', R a rounding, W a way, N a number, L a last code. */
    private static final String[] CALLED = {"format EM", "format EM", "codes F", "value FC", "kind FC", "above FC",
        "convert FCGR", "convert FCGR", "flags", "clearFlags", "one FSCR", "one FSCR", "two FPCCR", "two FPCCR",
        "fused FCCCR", "fused FCCCR", "oneAnew FSCR", "compare FCC", "rest FACC", "add ZY", "add ZY", "add ZY", "add ZY",
        "add ZY", "add FC", "empty", "sum WR", "sum WR", "digit FYYI", "quarter FC", "reduced FC", "cancels F",
        "hardest FS", "distance FSC", "slow FGS", "wrong FGS", "place FSCN", "line FSCL", "polynomial FCCCCB",
        "error FYYYYB", "type T", "type T", "type T", "type T", "erase", "read FR", "read FR", "digits FY", "power FY",
        "certify FSR", "check FSR", "certificates", "isMonotone FSR", "floatBits FC", "finiteShare F", "meanValue F",
        "isTrue"};
    private static final int[] STRANGE = {-1, Integer.MIN_VALUE, Integer.MAX_VALUE, 65536, -65536, 2048, 4096};

    private final Tally tally = new Tally();
    private final Random random = new Random(5);
    private final Map<String, Method> ofHouse = methods(Ulphouse.class);
    private final Map<String, Method> ofModel = methods(Model.class);
    private int told;
    private int[] sizes;
    private int rowFormat;
    private int size;
    private int from;

    public static void main(String[] args) {
        RunTest test = new RunTest();
        for (int run = 0; run < RUNS; run++) {
            test.run(run);
        }
        test.tally.close("RunTest");
    }

    private static Map<String, Method> methods(Class<?> of) {
        Map<String, Method> found = new HashMap<>();
        for (Method method : of.getDeclaredMethods()) {
            if (!java.lang.reflect.Modifier.isPrivate(method.getModifiers())) {
                method.setAccessible(true);
                found.put(method.getName(), method);
            }
        }
        return found;
    }

    private void run(int number) {
        Ulphouse house = new Ulphouse();
        Model model = new Model();
        told = 0;
        sizes = new int[6];
        rowFormat = 0;
        int first = random.nextInt(5);
        boolean isWrong = false;
        for (int call = 0; call < CALLS && !isWrong; call++) {
            String called = call < first ? "format EM" : CALLED[random.nextInt(CALLED.length)];
            isWrong = ask(house, model, called, number, call);
        }
    }

    private boolean ask(Ulphouse house, Model model, String called, int number, int call) {
        String name = called.split(" ")[0];
        String kinds = called.substring(name.length()).strip();
        Object[] arguments = new Object[kinds.length()];
        size = 128;
        for (int i = 0; i < arguments.length; i++) {
            arguments[i] = argument(kinds.charAt(i));
        }
        Object want = answer(ofModel.get(name), model, arguments);
        Object got = answer(ofHouse.get(name), house, arguments);
        if (name.equals("format") && want instanceof Integer) {
            sizes[told] = 1 << 1 + (int) arguments[0] + (int) arguments[1];
            told++;
        }
        boolean isAsDue = want.equals(got);
        tally.holds("run " + number + ", call " + call + ": " + name + Arrays.toString(arguments) + " answered " + got
            + ", due is " + want, isAsDue);
        return !isAsDue;
    }

    private static Object answer(Method method, Object of, Object[] arguments) {
        try {
            return method.invoke(of, arguments);
        } catch (InvocationTargetException e) {
            return e.getCause().getClass().getName();
        } catch (IllegalAccessException e) {
            throw new IllegalStateException(e);
        }
    }

    private Object argument(char kind) {
        boolean isStrange = random.nextInt(120) == 0;
        switch (kind) {
            case 'E':
                return isStrange ? strange() : 2 + random.nextInt(3);
            case 'M':
                return isStrange ? strange() : 1 + random.nextInt(6);
            case 'F':
            case 'G':
                return aFormat(isStrange, kind == 'F' ? random.nextInt(Math.max(1, told)) : random.nextInt(told + 1));
            case 'Z':
                rowFormat = random.nextInt(40) == 0 ? random.nextInt(Math.max(1, told)) : rowFormat;
                return aFormat(isStrange, rowFormat);
            case 'C':
                from = isStrange ? strange() : aCode();
                return from;
            case 'Y':
                int sign = size / 2;
                return isStrange ? aCode() : random.nextInt(Math.max(1, sign - sign / 4)) + sign * random.nextInt(2);
            case 'L':
                return isStrange ? strange() : from + random.nextInt(26) - 1;
            case 'I':
                return isStrange ? strange() : random.nextInt(31);
            case 'N':
                return isStrange ? strange() : random.nextInt(18);
            case 'B':
                return random.nextBoolean();
            default:
                return sign(kind, isStrange);
        }
    }

    private int aFormat(boolean isStrange, int format) {
        size = format < told ? sizes[format] : 128;
        return isStrange ? strange() : format;
    }

    /** Edges more often than by chance. */
    private int aCode() {
        int sign = size / 2;
        int bare = random.nextInt(4) == 0 ? new int[] {0, 1, sign - 1, sign - sign / 4, sign / 2}[random.nextInt(5)]
            : random.nextInt(sign);
        return bare + sign * random.nextInt(2);
    }

    private int strange() {
        return random.nextBoolean() ? STRANGE[random.nextInt(STRANGE.length)] : random.nextInt(20) - 6 + size;
    }

    private char sign(char kind, boolean isStrange) {
        if (isStrange) {
            return "xQ~ \u0000\u0171\uffff+nqe".charAt(random.nextInt(11));
        }
        String signs = kind == 'S' ? Oracle.SINGLES : kind == 'P' ? Oracle.PAIRS : kind == 'A' ? "+*"
            : kind == 'R' ? Oracle.ROUNDINGS : kind == 'W' ? "pced" : "0123456789012345678901234.-";
        return signs.charAt(random.nextInt(signs.length()));
    }
}
