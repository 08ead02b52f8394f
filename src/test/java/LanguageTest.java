import java.io.IOException;
import java.nio.file.Files;
import java.nio.file.Path;
import java.util.Set;
import java.util.TreeSet;
import java.util.regex.Matcher;
import java.util.regex.Pattern;

/** The rules of LANGUAGE.md that can be seen in the text of the class; .ci/run starts it in the project's folder. */
public final class LanguageTest {
    private static final Path SOURCE = Path.of("src/main/java/PushdownGameSolver.java");
    private static final String[] REFUSED = {"\\bthrows?\\b", "\\btry\\b", "\\bcatch\\b", "\\bsynchronized\\b",
        "\\bassert\\b", "\\bpackage\\b", "\\bimport\\b", "->", "::", "Exact\\b", "\\bThread\\b", "\\bRandom\\b",
        "\\bSystem\\.(?!arraycopy)", "\\bequals\\b", "\\bhashCode\\b", "\\btoString\\b", "\\bstatic\\s*\\{",
        "\\bdouble\\b", "\\bfloat\\b", "\\bwhile\\b", "\\bprotected\\b", "\\bObject\\b"};

    /** The library of rule 4, as far as the class uses it; a name of rule 4 that is new here is added. */
    private static final Set<String> LIBRARY = Set.of("Math.max", "Math.min", "System.arraycopy", "Long.MAX_VALUE");

    private LanguageTest() {
    }

    public static void main(String[] args) throws IOException {
        String source = Files.readString(SOURCE);
        String code = source.replaceAll("(?s)/\\*.*?\\*/", "").replaceAll("//[^\n]*", "")
                .replaceAll("\"[^\"\n]*\"", "\"\"");
        for (String refused : REFUSED) {
            Matcher found = Pattern.compile(refused).matcher(code);
            Check.holds("the class has no " + refused, !found.find());
        }
        Check.holds("the class is written in ASCII", source.chars().allMatch(c -> c == '\n' || c >= 32 && c < 127));
        Check.holds("at most twelve classes", Pattern.compile("\\bclass \\w").matcher(code).results().count() <= 12);
        methods(code);
        staticFields(code);
        library(code);
        loops(code);
        Check.end();
    }

    private static void methods(String code) {
        Matcher head = Pattern.compile("(?m)^( {4}| {8})(?:\\w[\\w\\[\\]]* )*\\w+\\(([^;{}]*)\\) \\{$").matcher(code);
        int methods = 0;
        while (head.find()) {
            if (head.group().strip().matches("(if|for|switch) .*")) {
                continue;
            }
            methods++;
            int end = code.indexOf("\n" + head.group(1) + "}\n", head.end());
            String body = code.substring(head.end(), end);
            Check.holds("short: " + head.group().strip(), body.lines().count() <= 60);
            Check.holds("seven parameters: " + head.group().strip(), head.group(2).split(",").length <= 7);
        }
        Check.holds("the methods are found", methods > 60);
    }

    private static void staticFields(String code) {
        Matcher field = Pattern.compile("(?m)^ +[a-z ]*\\bstatic\\b[^(\n]*[=;].*$").matcher(code);
        int fields = 0;
        while (field.find()) {
            fields++;
            Check.holds("a constant: " + field.group().strip(),
                    field.group().matches(" +(public |private )?static final (int|String|int\\[\\]) [A-Z_]+ =.*"));
        }
        Check.holds("the constants are found", fields > 15);
    }

    private static void library(String code) {
        Set<String> own = new TreeSet<>();
        Matcher named = Pattern.compile("\\bclass (\\w+)").matcher(code);
        while (named.find()) {
            own.add(named.group(1));
        }
        Matcher used = Pattern.compile("\\b([A-Z]\\w*[a-z]\\w*)\\.(\\w+)").matcher(code);
        while (used.find()) {
            Check.holds("own or of rule 4: " + used.group(),
                    own.contains(used.group(1)) || LIBRARY.contains(used.group()));
        }
        Matcher made = Pattern.compile("\\bnew (\\w+)").matcher(code);
        while (made.find()) {
            Check.holds("own or a row of numbers: " + made.group(),
                    own.contains(made.group(1)) || made.group(1).matches("int|long|char"));
        }
    }

    /** Rule 9: each loop counts against a bound that stands in its own line. */
    private static void loops(String code) {
        Matcher loop = Pattern.compile("\\b(?:for|while|do)\\b[^{]*\\{").matcher(code);
        int loops = 0;
        while (loop.find()) {
            loops++;
            Check.holds("counts up or down to a bound: " + loop.group(), loop.group().matches(
                    "for \\(int (\\w+) = [^;]+; (\\1 <=? [\\w.()]+( && [^;]+)?; \\1\\+\\+|\\1 >= 0; \\1--)\\) \\{"));
        }
        Check.holds("the loops are found", loops > 20);
    }
}
