import java.io.IOException;
import java.lang.reflect.InvocationTargetException;
import java.lang.reflect.Method;
import java.nio.file.Files;
import java.nio.file.Path;
import java.util.ArrayList;
import java.util.Arrays;
import java.util.Comparator;
import java.util.List;
import java.util.regex.Matcher;
import java.util.regex.Pattern;

/**
 * Runs the tests that each hold the program to one sentence of the document, and looks whether
 * the document has these sentences, and whether each of its sentences has a test.
 */
public final class SentencesTest {
    private static final Due due = new Due("SentencesTest");
    private static final int PROMISES = 29;
    private static final Class<?>[] EDGES = {
        HousesEdges.class, TextEdges.class, RentsEdges.class, YearsEdges.class, OwnersEdges.class, SheetsEdges.class};

    private final List<Method> tests = new ArrayList<>();
    private final String document;
    private final String terms;

    private SentencesTest(String document) {
        this.document = document;
        terms = between(document, "## Terms", "Ahead of the calls");
        for (Class<?> edges : EDGES) {
            for (Method m : edges.getDeclaredMethods()) {
                if (m.isAnnotationPresent(Sentence.class)) {
                    tests.add(m);
                }
            }
        }
        // the machine tells methods in no order of its own
        tests.sort(Comparator.comparingInt(SentencesTest::promiseOf).thenComparing(Method::getName));
    }

    public static void main(String[] args) throws IOException, IllegalAccessException {
        Path file = Path.of(System.getProperty("project", "."), "../shared/DOC.md");
        SentencesTest all = new SentencesTest(spaced(Files.readString(file)));
        for (int promise = 1; promise <= PROMISES; promise++) {
            all.runTestsOf(promise);
            eachClauseIsHeld(all.promiseText(promise), "promise " + promise, all.testsOf(promise));
        }
        eachClauseIsHeld(all.terms, "Terms", all.tests);
        due.end();
    }

    private static int promiseOf(Method test) {
        return test.getAnnotation(Sentence.class).promise();
    }

    private static String wordsOf(Method test) {
        return test.getAnnotation(Sentence.class).says();
    }

    private static String spaced(String text) {
        return text.replaceAll("```(text)?", " ").replaceAll("\\s+", " ");
    }

    private static String between(String text, String from, String to) {
        int start = text.indexOf(from) + from.length();
        return text.substring(start, text.indexOf(to, start));
    }

    /** What the document says behind the head of the method. */
    private String promiseText(int promise) {
        Matcher m = Pattern.compile("## Promise " + promise + ": [^`]*`[^`]*`: (.*?) ## ").matcher(document);
        return m.find() ? m.group(1) : "";
    }

    private List<Method> testsOf(int promise) {
        List<Method> some = new ArrayList<>();
        for (Method test : tests) {
            if (promiseOf(test) == promise) {
                some.add(test);
            }
        }
        return some;
    }

    /** The words stand under the promise itself, or in what is said ahead of all promises. */
    private boolean saysSo(int promise, String words) {
        return promiseText(promise).contains(words) || between(document, "# MeanTown", "## Promise 1:").contains(words);
    }

    private void runTestsOf(int promise) throws IllegalAccessException {
        int answers = 0;
        for (Method test : testsOf(promise)) {
            String name = "promise " + promise + ", '" + wordsOf(test) + "', " + test.getName();
            due.holds(name + ": the document says so", saysSo(promise, wordsOf(test)));
            Due its = new Due(name);
            try {
                test.invoke(null, its);
            } catch (InvocationTargetException e) {
                due.holds(name + ": " + e.getCause(), false);
            }
            due.holds(name + ": has something to look at", its.checked() > 0);
            due.is(name + ": wrong answers", its.wrong(), 0);
            answers += its.checked();
        }
        System.out.println("promise " + promise + ": " + testsOf(promise).size() + " tests, " + answers + " answers");
    }

    /** A clause is held where a test names at least some of its words. */
    private static void eachClauseIsHeld(String text, String where, List<Method> tests) {
        boolean[] held = new boolean[text.length()];
        for (Method test : tests) {
            String words = wordsOf(test);
            for (int at = text.indexOf(words); at >= 0; at = text.indexOf(words, at + 1)) {
                Arrays.fill(held, at, at + words.length(), true);
            }
        }
        // a full stop has no blank ahead and is none of the two dots of a range
        Matcher clause = Pattern.compile("(?:[^;.]|\\.\\.|\\.(?=\\S))+").matcher(text);
        int clauses = 0;
        while (clause.find()) {
            if (!clause.group().isBlank()) {
                clauses++;
                due.holds(where + ": a test of '" + clause.group().strip() + "'", anyOf(held, clause.start(), clause.end()));
            }
        }
        due.holds(where + " has clauses", clauses > 0);
    }

    private static boolean anyOf(boolean[] held, int from, int to) {
        for (int k = from; k < to; k++) {
            if (held[k]) {
                return true;
            }
        }
        return false;
    }
}
