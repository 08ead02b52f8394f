import java.io.IOException;
import java.nio.file.Files;
import java.nio.file.Path;
import java.util.regex.Matcher;
import java.util.regex.Pattern;

/** The rules of LANGUAGE.md that can be seen in the text of the class; .ci/run starts it in the project's folder. */
public final class LanguageTest {
    private static final Path SOURCE = Path.of("src/main/java/PushdownGameSolver.java");
    private static final String[] REFUSED = {"\\bthrows?\\b", "\\btry\\b", "\\bcatch\\b", "\\bsynchronized\\b",
        "\\bassert\\b", "\\bpackage\\b", "\\bimport\\b", "->", "::", "Exact\\b", "\\bThread\\b", "\\bRandom\\b",
        "\\bSystem\\.(?!arraycopy)", "\\bequals\\b", "\\bhashCode\\b", "\\btoString\\b", "\\bstatic\\s*\\{",
        "\\bdouble\\b", "\\bfloat\\b", "\\bwhile\\b", "\\bprotected\\b", "\\bObject\\b"};

    private LanguageTest() {
    }

    public static void main(String[] args) throws IOException {
        String source = Files.readString(SOURCE);
        String code = source.replaceAll("(?s)/\\*.*?\\*/", "").replaceAll("//[^\n]*", "")
                .replaceAll("\"[^\"\n]*\"", "\"\"");
        for (String refused : REFUSED) {
            Matcher found = Pattern.compile(refused).matcher(code);
            Check.holds("the class has no " + refused, !found.find());
        }
        Check.holds("the class is written in ASCII", source.chars().allMatch(c -> c == '\n' || c >= 32 && c < 127));
        Check.holds("at most twelve classes", Pattern.compile("\\bclass \\w").matcher(code).results().count() <= 12);
        methods(code);
        staticFields(code);
        Check.end();
    }

    private static void methods(String code) {
        Matcher head = Pattern.compile("(?m)^( {4}| {8})(?:\\w[\\w\\[\\]]* )*\\w+\\(([^;{}]*)\\) \\{$").matcher(code);
        int methods = 0;
        while (head.find()) {
            if (head.group().strip().matches("(if|for|switch) .*")) {
                continue;
            }
            methods++;
            int end = code.indexOf("\n" + head.group(1) + "}\n", head.end());
            String body = code.substring(head.end(), end);
            Check.holds("short: " + head.group().strip(), body.lines().count() <= 60);
            Check.holds("seven parameters: " + head.group().strip(), head.group(2).split(",").length <= 7);
        }
        Check.holds("the methods are found", methods > 60);
    }

    private static void staticFields(String code) {
        Matcher field = Pattern.compile("(?m)^ +[a-z ]*\\bstatic\\b[^(\n]*[=;].*$").matcher(code);
        int fields = 0;
        while (field.find()) {
            fields++;
            Check.holds("a constant: " + field.group().strip(),
                    field.group().matches(" +(public |private )?static final (int|String|int\\[\\]) [A-Z_]+ =.*"));
        }
        Check.holds("the constants are found", fields > 15);
    }
}
