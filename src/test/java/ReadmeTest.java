import java.lang.reflect.Method;
import java.lang.reflect.Modifier;
import java.nio.file.Files;
import java.nio.file.Path;
import java.util.ArrayList;
import java.util.List;
import java.util.regex.Matcher;
import java.util.regex.Pattern;
import java.util.stream.Stream;

/** README.md tells the truth: its examples answer what stands behind them, and it leaves nothing out. */
public final class ReadmeTest {
    private static final String NEW_OBJECT = "KingsBanquet banquet = new KingsBanquet();";
    private static final Pattern EXAMPLES = Pattern.compile("(?s)```java\n(.*?)```");
    private static final Pattern CALL = Pattern.compile("banquet\\.(\\w+\\([^)]*\\)); +// (-?\\d+)(:.*)?");
    private static final Pattern CONSTANT = Pattern.compile("`([A-Z_]+)` \\((-?\\d+)\\)");
    private static final Due DUE = new Due("ReadmeTest");

    public static void main(String[] args) throws Exception {
        String readme = Files.readString(Path.of("README.md"));
        List<String> examples = found(EXAMPLES, readme);
        DUE.is("there are examples", examples.isEmpty() ? 0 : 1, 1);
        for (String example : examples) {
            answersAsTold(example);
        }
        for (Method method : KingsBanquet.class.getDeclaredMethods()) {
            if (Modifier.isPublic(method.getModifiers())) {
                names(readme, method.getName() + "(");
            }
        }
        try (Stream<Path> tests = Files.list(Path.of("src/test/java"))) {
            tests.map(test -> test.getFileName().toString().replace(".java", ""))
                    .forEach(test -> names(readme, "`" + test + "`"));
        }
        constants(readme);
        DUE.end();
    }

    private static List<String> found(Pattern pattern, String text) {
        List<String> all = new ArrayList<>();
        for (Matcher matcher = pattern.matcher(text); matcher.find();) {
            all.add(matcher.group(1));
        }
        return all;
    }

    private static void answersAsTold(String example) {
        Run run = new Run(DUE, "README.md:");
        String[] lines = example.split("\n");
        DUE.is("an example begins with a new object", lines[0].equals(NEW_OBJECT) ? 1 : 0, 1);
        for (int at = 1; at < lines.length; at++) {
            Matcher call = CALL.matcher(lines[at]);
            boolean isTold = call.matches();
            DUE.is("a call with its answer: " + lines[at], isTold ? 1 : 0, 1);
            if (isTold) {
                run.is(call.group(1), Integer.parseInt(call.group(2)));
            }
        }
    }

    private static void constants(String readme) throws Exception {
        int told = 0;
        for (Matcher matcher = CONSTANT.matcher(readme); matcher.find(); told++) {
            int value = KingsBanquet.class.getField(matcher.group(1)).getInt(null);
            DUE.is(matcher.group(), Integer.parseInt(matcher.group(2)), value);
        }
        DUE.is("how many constants are told", told, 5);
    }

    private static void names(String readme, String word) {
        DUE.is("README.md names " + word, readme.contains(word) ? 1 : 0, 1);
    }
}
