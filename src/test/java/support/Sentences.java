import java.io.IOException;
import java.nio.file.Files;
import java.nio.file.Path;
import java.util.ArrayList;
import java.util.HashMap;
import java.util.HashSet;
import java.util.LinkedHashMap;
import java.util.List;
import java.util.Map;
import java.util.Set;

/**
 * Asks what single sentences of the document say, and tells the sentence where it does not hold. It also tells, but
 * does not count as wrong, words that the document does not have and words of it that nobody asked.
 */
final class Sentences {
    static final Class<? extends Exception> INDEX = IndexOutOfBoundsException.class;
    static final Class<? extends Exception> ARGUMENT = IllegalArgumentException.class;
    static final Class<? extends Exception> STATE = IllegalStateException.class;
    static final Class<? extends Exception> ARITHMETIC = ArithmeticException.class;
    static final Class<? extends Exception> ELEMENT = java.util.NoSuchElementException.class;
    private static final Path DOCUMENT = Path.of("../shared/DOC.md");

    private final Tally tally = new Tally();
    private final Map<String, List<String>> sections = new LinkedHashMap<>();
    private final Set<String> isPromise = new HashSet<>();
    private final Map<String, List<String>> asked = new HashMap<>();
    private String section = "";
    private String words = "";
    private int count;

    interface Call {
        void run();
    }

    Sentences() {
        try {
            if (Files.isReadable(DOCUMENT)) {
                take(Files.readAllLines(DOCUMENT));
            }
        } catch (IOException e) {
            sections.clear();
        }
    }

    private void take(List<String> lines) {
        String at = "";
        for (String line : lines) {
            if (line.startsWith("## Promise ")) {
                at = line.substring(line.indexOf(": ") + 2);
                isPromise.add(at);
            } else if (line.startsWith("## ")) {
                at = line.substring(3);
            } else if (!line.isBlank()) {
                sections.computeIfAbsent(at, key -> new ArrayList<>()).add(line);
            }
        }
    }

    /** Which words are asked next, and where they stand: in Terms, or with a method. */
    void of(String section, String words) {
        this.section = section;
        this.words = words;
        count++;
        boolean isThere = sections.isEmpty();
        for (String line : sections.getOrDefault(section, List.of())) {
            isThere |= line.contains(words);
        }
        if (!isThere) {
            System.out.println("the document does not have: " + section + ": " + words);
        }
        asked.computeIfAbsent(section, key -> new ArrayList<>()).add(words);
    }

    void due(long got, long want) {
        tally.due(section + ": \"" + words + "\"", got, want);
    }

    void due(String about, long got, long want) {
        tally.due(section + ": \"" + words + "\" " + about, got, want);
    }

    void holds(boolean isSo) {
        due(isSo ? 1 : 0, 1);
    }

    void holds(String about, boolean isSo) {
        due(about, isSo ? 1 : 0, 1);
    }

    void refused(Class<? extends Exception> kind, Call call) {
        refused("", kind, call);
    }

    void refused(String about, Class<? extends Exception> kind, Call call) {
        Class<?> got = null;
        try {
            call.run();
        } catch (RuntimeException e) {
            got = e.getClass();
        }
        holds(about + " threw " + got + ", due is " + kind, got == kind);
    }

    void close(String name) {
        for (String each : sections.keySet()) {
            if (each.equals("Terms") || isPromise.contains(each)) {
                tellNotAsked(each);
            }
        }
        System.out.println(count + " sentences, or parts of them, were asked");
        tally.close(name);
    }

    /** What is left of a section without the words that were asked; a line that tells an argument is no promise. */
    private void tellNotAsked(String each) {
        for (String line : sections.get(each)) {
            String left = line.startsWith("`") ? line.substring(line.indexOf("`: ") + 3) : line;
            if (left.startsWith("- ") || left.startsWith("Ahead of the calls")) {
                continue;
            }
            for (String some : asked.getOrDefault(each, List.of())) {
                left = left.replace(some, "|");
            }
            for (String part : left.split("\\|")) {
                boolean isHeading = part.strip().matches("[A-Z][a-z]+( [a-z]+)*\\.");
                if (!isHeading && part.matches("(?s).*[a-z].*")) {
                    System.out.println("not asked: " + each + ": " + part.strip());
                }
            }
        }
    }
}
