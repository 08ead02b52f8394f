import java.io.IOException;
import java.nio.file.DirectoryStream;
import java.nio.file.Files;
import java.nio.file.Path;
import java.util.ArrayList;
import java.util.List;
import java.util.regex.Matcher;
import java.util.regex.Pattern;

/** Holds README.md to the class: its example answers as it says, and it names every call and every test. */
public final class ReadmeTest {
    private static final Path README = Path.of("README.md");
    private static final Path TESTS = Path.of("src/test/java");
    private static final Pattern TYPED = Pattern.compile("for \\(char c : \"([^\"]+)\"\\.toCharArray\\(\\)\\)");
    private static final Pattern CALL = Pattern.compile("solver\\.(\\w+)\\(([\\d, ]*)\\);\\s*// .*?(-?\\d+)");

    private ReadmeTest() {
    }

    public static void main(String[] args) throws ReflectiveOperationException, IOException {
        String readme = Files.readString(README);
        example(readme);
        for (java.lang.reflect.Method method : PushdownGameSolver.class.getMethods()) {
            if (method.getDeclaringClass() == PushdownGameSolver.class) {
                Check.holds("README names " + method.getName(), readme.contains("`" + method.getName() + "("));
            }
        }
        try (DirectoryStream<Path> tests = Files.newDirectoryStream(TESTS, "*Test.java")) {
            for (Path test : tests) {
                String name = test.getFileName().toString().replace(".java", "");
                Check.holds("README names " + name, readme.contains("`" + name + "`"));
            }
        }
        Check.end();
    }

    /** The first number in the comment behind a call is its answer. */
    private static void example(String readme) throws ReflectiveOperationException {
        int start = readme.indexOf("```java");
        String code = readme.substring(start, readme.indexOf("```", start + 3));
        Matcher typed = TYPED.matcher(code);
        Check.holds("README types a game", typed.find());
        PushdownGameSolver x = new PushdownGameSolver();
        Check.type(x, typed.group(1));
        Matcher call = CALL.matcher(code);
        int calls = 0;
        while (call.find()) {
            calls++;
            List<Object> values = new ArrayList<>();
            List<Class<?>> types = new ArrayList<>();
            for (String number : call.group(2).isEmpty() ? new String[0] : call.group(2).split(", ")) {
                values.add(Integer.valueOf(number));
                types.add(int.class);
            }
            Number answer = (Number) PushdownGameSolver.class.getMethod(call.group(1), types.toArray(new Class<?>[0]))
                    .invoke(x, values.toArray());
            Check.due("README: " + call.group(1) + "(" + call.group(2) + ")", answer.longValue(),
                    Long.parseLong(call.group(3)));
        }
        Check.holds("README's calls are found", calls >= 12);
    }
}
