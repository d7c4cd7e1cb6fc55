import java.io.File;
import java.io.IOException;
import java.lang.reflect.InvocationTargetException;
import java.lang.reflect.Method;
import java.lang.reflect.Modifier;
import java.nio.file.Files;
import java.nio.file.Path;
import java.util.HashMap;
import java.util.Map;
import java.util.Set;
import java.util.TreeSet;
import java.util.regex.Matcher;
import java.util.regex.Pattern;

/** What README.md says: its calls answer as told, it shows every method and names every test. */
public final class ReadmeTest {
    private static final Path PAGE = Path.of("README.md");
    private static final File TESTS = new File("src/test/java");
    private static final Pattern CALL = Pattern.compile("(?:int (\\w+) = )?house\\.(\\w+)\\((.*)\\); +// (.+)");

    private final Tally tally = new Tally();
    private final Map<String, Integer> names = new HashMap<>();
    private final Set<String> shown = new TreeSet<>();
    private Ulphouse house;

    public static void main(String[] args) throws IOException, IllegalAccessException {
        ReadmeTest test = new ReadmeTest();
        boolean isJava = false;
        for (String line : Files.readAllLines(PAGE)) {
            if (line.startsWith("```")) {
                isJava = line.equals("```java");
            } else if (isJava) {
                test.ask(line);
            }
        }
        test.showsAll();
        test.namesTests(Files.readString(PAGE));
        test.tally.close("ReadmeTest");
    }

    private void ask(String line) throws IllegalAccessException {
        if (line.equals("Ulphouse house = new Ulphouse();")) {
            house = new Ulphouse();
            return;
        }
        Matcher call = CALL.matcher(line);
        boolean isCall = call.matches();
        tally.holds("README.md has what is no call: " + line, isCall);
        if (isCall) {
            shown.add(call.group(2));
            String got = answer(method(call.group(2)), call.group(3).split(", *"));
            String told = call.group(4).split(": ")[0];
            tally.holds("README.md: " + line + " answered " + got, got.equals(told));
            if (call.group(1) != null) {
                names.put(call.group(1), Integer.parseInt(got));
            }
        }
    }

    private static Method method(String name) {
        for (Method each : Ulphouse.class.getDeclaredMethods()) {
            if (Modifier.isPublic(each.getModifiers()) && each.getName().equals(name)) {
                return each;
            }
        }
        throw new IllegalStateException("README.md calls what is not there: " + name);
    }

    private String answer(Method method, String[] told) throws IllegalAccessException {
        Object[] arguments = new Object[method.getParameterCount()];
        for (int i = 0; i < arguments.length; i++) {
            arguments[i] = argument(told[i]);
        }
        try {
            Object answer = method.invoke(house, arguments);
            return answer instanceof Character ? "'" + answer + "'" : answer.toString();
        } catch (InvocationTargetException e) {
            return "throws " + e.getCause().getClass().getSimpleName();
        }
    }

    private Object argument(String told) {
        if (told.startsWith("'")) {
            return told.charAt(1);
        }
        if (told.equals("true") || told.equals("false")) {
            return told.equals("true");
        }
        return names.containsKey(told) ? names.get(told) : Integer.valueOf(told);
    }

    private void showsAll() {
        for (Method each : Ulphouse.class.getDeclaredMethods()) {
            if (Modifier.isPublic(each.getModifiers())) {
                tally.holds("README.md shows " + each.getName(), shown.contains(each.getName()));
            }
        }
    }

    private void namesTests(String page) {
        for (String file : TESTS.list()) {
            if (file.endsWith(".java")) {
                String name = file.substring(0, file.length() - 5);
                tally.holds("README.md names " + name, page.contains("| `" + name + "` |"));
            }
        }
    }
}
