import java.io.IOException;
import java.lang.reflect.Method;
import java.lang.reflect.Modifier;
import java.nio.file.Files;
import java.nio.file.Path;
import java.util.ArrayList;
import java.util.List;
import java.util.Set;
import java.util.TreeSet;
import java.util.regex.Matcher;
import java.util.regex.Pattern;
import java.util.stream.Stream;

/** All promises: what README.md shows of calls is answered so, and it shows every call. */
public final class ReadmeTest {
    private static final Path PAGE = Path.of("README.md");
    private static final Path TESTS = Path.of("src", "test", "java");
    private static final String NEW_OBJECT = "SiteswapStudio studio = new SiteswapStudio();";
    private static final Pattern CALL =
        Pattern.compile("studio\\.((\\w+)\\(.*\\)); +// ([^:]+)(: .*)?");

    private final Set<String> shown = new TreeSet<>();

    public static void main(String[] args) throws IOException {
        ReadmeTest test = new ReadmeTest();
        List<String> lines = Files.readAllLines(PAGE);
        test.examples(lines);
        test.everyCallIsShown();
        everyTestIsNamed(lines);
        Check.end();
    }

    private void examples(List<String> lines) {
        for (int k = 0; k < lines.size(); k++) {
            if (lines.get(k).equals("```java")) {
                int end = k + lines.subList(k, lines.size()).indexOf("```");
                example(k + 1, lines.subList(k + 1, end));
            }
        }
    }

    private void example(int number, List<String> lines) {
        List<String> rows = new ArrayList<>();
        String title = "README.md, the example behind line " + number;
        if (!lines.get(0).equals(NEW_OBJECT)) {
            Check.report(title + ": it does not begin with a new object");
        }
        for (String line : lines.subList(1, lines.size())) {
            Matcher call = CALL.matcher(line);
            if (call.matches()) {
                shown.add(call.group(2));
                String answer = call.group(3);
                rows.add(call.group(1) + (answer.startsWith("throws ") ? " " : " = ") + answer);
            } else if (!line.isEmpty()) {
                Check.report(title + ": no call with its answer: " + line);
            }
        }
        Run.due(title, rows.toArray(new String[0]));
    }

    private void everyCallIsShown() {
        for (Method method : SiteswapStudio.class.getDeclaredMethods()) {
            if (Modifier.isPublic(method.getModifiers()) && !shown.contains(method.getName())) {
                Check.report("README.md does not show " + method.getName());
            }
        }
    }

    private static void everyTestIsNamed(List<String> lines) throws IOException {
        try (Stream<Path> files = Files.list(TESTS)) {
            for (Path file : (Iterable<Path>) files::iterator) {
                String name = file.getFileName().toString().replace(".java", "");
                if (lines.stream().noneMatch(line -> line.contains("`" + name + "`"))) {
                    Check.report("README.md does not name " + name);
                }
            }
        }
    }
}
