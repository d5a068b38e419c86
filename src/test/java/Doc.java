import java.io.IOException;
import java.nio.file.Files;
import java.nio.file.Path;
import java.util.ArrayList;
import java.util.LinkedHashMap;
import java.util.List;
import java.util.Map;
import java.util.Set;
import java.util.regex.Matcher;
import java.util.regex.Pattern;

/**
 * The sentences of ../shared/DOC.md. A test tells the sentence that it tests; a sentence must stand in the document
 * word for word, and in the end none may be left without a check. Of two exceptions that a promise names, the order
 * is a sentence too.
 */
final class Doc {
    static final String INDEX = "IndexOutOfBoundsException";
    static final String ARGUMENT = "IllegalArgumentException";
    static final String UNSUPPORTED = "UnsupportedOperationException";
    static final String STATE = "IllegalStateException";
    static final String NONE = "NoSuchElementException";
    static final String ARITHMETIC = "ArithmeticException";

    private static final Path FILE = Path.of("../shared/DOC.md");
    private static final Pattern PROMISE = Pattern.compile("## Promise (\\d+): .*");
    private static final Pattern HEAD = Pattern.compile("`[^`]*`: (.*)");
    private static final Pattern THROWS = Pattern.compile("Throws `(\\w+)` .*");
    private static final Set<String> HEADINGS =
        Set.of("Chips and money.", "Rounds.", "Counts.", "Lotteries.", "Shifts.", "Exceptions.");
    private static final Map<String, Integer> CHECKS = new LinkedHashMap<>();
    private static final List<String> CURRENT = new ArrayList<>();
    private static int checksBefore;

    private Doc() {
    }

    static void read() throws IOException {
        String text = Files.readString(FILE);
        readTerms(between(text, "## Terms\n", "Examples: "));
        for (String line : between(text, "Examples: ", "Ahead of the calls").split("\n")) {
            if (line.startsWith("- ")) {
                CHECKS.put(line, 0);
            }
        }
        readPromises(between(text, "## Promise 1:", "## Not promised"));
    }

    private static String between(String text, String begin, String end) {
        int from = text.indexOf(begin);
        int to = text.indexOf(end, Math.max(from, 0));
        Expect.same("the document has " + begin.trim() + " ahead of " + end.trim(), from >= 0 && to > from, true);
        return from >= 0 && to > from ? text.substring(from, to) : "";
    }

    private static void readTerms(String terms) {
        for (String paragraph : terms.replace("<p>", "").split("\n\n")) {
            String line = paragraph.replaceAll("## Terms", "").replaceAll("\\s+", " ").trim();
            for (String sentence : line.split("(?<=[.;:]) ")) {
                if (!sentence.isEmpty() && !HEADINGS.contains(sentence)) {
                    CHECKS.put(sentence, 0);
                }
            }
        }
    }

    private static void readPromises(String promises) {
        int promise = 0;
        List<String> thrown = new ArrayList<>();
        for (String line : promises.split("\n")) {
            Matcher begin = PROMISE.matcher(line);
            Matcher head = HEAD.matcher(line);
            Matcher exception = THROWS.matcher(line);
            if (begin.matches()) {
                promise = Integer.parseInt(begin.group(1));
                thrown.clear();
            } else if (!line.isEmpty()) {
                CHECKS.put(key(promise, head.matches() ? head.group(1) : line), 0);
            }
            if (exception.matches()) {
                for (String first : thrown) {
                    CHECKS.put(key(promise, orderOf(first, exception.group(1))), 0);
                }
                thrown.add(exception.group(1));
            }
        }
    }

    private static String key(int promise, String sentence) {
        return "promise " + promise + ": " + sentence;
    }

    private static String orderOf(String first, String second) {
        return first + " ahead of " + second;
    }

    /** Begins the test of sentences of a promise. */
    static void says(int promise, String... sentences) {
        end();
        for (String sentence : sentences) {
            CURRENT.add(key(promise, sentence));
        }
        begin();
    }

    /** Begins the test of sentences of the terms, or of an example. */
    static void term(String... sentences) {
        end();
        CURRENT.addAll(List.of(sentences));
        begin();
    }

    /** Begins the test that the first of two exceptions which apply is thrown. */
    static void order(int promise, String first, String second) {
        says(promise, orderOf(first, second));
    }

    private static void begin() {
        for (String sentence : CURRENT) {
            Expect.same("the document says: " + sentence, CHECKS.containsKey(sentence), true);
        }
        Expect.about(String.join(" ", CURRENT));
        checksBefore = Expect.checks();
    }

    private static void end() {
        for (String sentence : CURRENT) {
            CHECKS.merge(sentence, Expect.checks() - checksBefore, Integer::sum);
        }
        CURRENT.clear();
        Expect.about("");
    }

    static void allAreTested() {
        end();
        for (Map.Entry<String, Integer> entry : CHECKS.entrySet()) {
            Expect.same("checks of: " + entry.getKey(), entry.getValue() > 0, true);
        }
        System.out.println(CHECKS.size() + " sentences of the document");
    }
}
