import java.io.IOException;
import java.lang.reflect.Method;
import java.nio.file.Files;
import java.nio.file.Path;
import java.util.ArrayList;
import java.util.List;
import java.util.regex.Matcher;
import java.util.regex.Pattern;

/**
 * Holds the boundary tests to the document: each of them names a sentence that stands there, each sentence that names
 * an error code or an argument's range has a test, and no sentence of the description is left out but those below.
 */
public final class BoundaryCoverageTest {
    private static final Path DOCUMENT = Path.of("../shared/DOC.md");
    private static final int PROMISES = 32;
    private static final Pattern ARGUMENT = Pattern.compile("(?m)^- (`\\w+`: .*)$");

    /** What the description says without naming a boundary. */
    private static final List<String> NAMES_NO_BOUNDARY = List.of(
            "Each state belongs to one of two players, the REACHER or the OPPONENT. Some states are targets",
            "A configuration is a state and a stack of symbols",
            "The minimal forcing sets are found in rounds",
            "Let Q be the sets that all pairs have after round r. After round r + 1, the pair (p, g) has the following"
                    + " sets, of which only the minimal ones are kept");

    private BoundaryCoverageTest() {
    }

    public static void main(String[] args) throws IOException {
        String document = Files.readString(DOCUMENT);
        int firstPromise = document.indexOf("## Promise 1:");
        List<Method> tests = new ArrayList<>();
        for (Class<?> holder : Boundaries.all()) {
            tests.addAll(Boundaries.testsOf(holder));
        }
        everyQuoteStands(tests, document, firstPromise);
        for (int promise = 1; promise <= PROMISES; promise++) {
            everyCodeAndArgumentIsTested(tests, document, promise);
        }
        int description = document.indexOf("## Description");
        int examples = document.indexOf("Examples:");
        noSentenceIsLeftOut(tests, plain(document.substring(description + "## Description".length(), examples)));
        Check.end();
    }

    private static String plain(String text) {
        return text.replaceAll("\\s+", " ").trim();
    }

    private static String sectionOf(String document, int promise) {
        int start = document.indexOf("## Promise " + promise + ":");
        int end = document.indexOf("\n## ", start);
        return document.substring(start, end);
    }

    private static Boundary of(Method test) {
        return test.getAnnotation(Boundary.class);
    }

    private static void everyQuoteStands(List<Method> tests, String document, int firstPromise) {
        for (Method test : tests) {
            int promise = of(test).promise();
            String place = promise == Boundary.DESCRIPTION ? document.substring(0, firstPromise)
                    : sectionOf(document, promise);
            Check.holds(Boundaries.nameOf(test) + " stands in the document", plain(place).contains(of(test).sentence()));
        }
    }

    private static boolean isTested(List<Method> tests, int promise, String part) {
        return tests.stream().anyMatch(test -> of(test).promise() == promise
                && of(test).sentence().contains(part));
    }

    private static void everyCodeAndArgumentIsTested(List<Method> tests, String document, int promise) {
        String section = sectionOf(document, promise);
        Check.holds("promise " + promise + " has a boundary test",
                tests.stream().anyMatch(test -> of(test).promise() == promise));
        Matcher argument = ARGUMENT.matcher(section);
        while (argument.find()) {
            String part = argument.group(1);
            Check.holds("promise " + promise + " has a test of " + part, isTested(tests, promise, part));
        }
        for (String part : ARGUMENT.matcher(section).replaceAll("").split("[;\n]")) {
            String clause = part.trim().replaceAll("\\.$", "");
            if (Boundaries.CODE.matcher(clause).find()) {
                Check.holds("promise " + promise + " has a test of " + clause, isTested(tests, promise, clause));
            }
        }
    }

    private static void noSentenceIsLeftOut(List<Method> tests, String description) {
        String rest = description;
        for (Method test : tests) {
            if (of(test).promise() == Boundary.DESCRIPTION) {
                rest = rest.replace(of(test).sentence(), "|");
            }
        }
        for (String part : rest.split("\\|")) {
            String left = part.replaceAll("^[\\s.,;:-]*(or\\b)?", "").replaceAll("[\\s.,;:-]*$", "").trim();
            Check.holds("a test names: " + left, left.isEmpty() || NAMES_NO_BOUNDARY.contains(left));
        }
    }
}
