import java.io.IOException;
import java.lang.reflect.Method;
import java.lang.reflect.Modifier;
import java.nio.file.Files;
import java.nio.file.Path;
import java.util.regex.Matcher;
import java.util.regex.Pattern;

/** What README.md tells of the class: its example answers as it says, and its tables have every call and test. */
public final class ReadmeTest {
    private static final Check CHECK = new Check();
    private static final Pattern LAW = Pattern.compile("\"([^\"]*)\"\\.toCharArray\\(\\)\\) x\\.write\\(c\\);");
    private static final Pattern CALL = Pattern.compile("x\\.(\\w+)\\(([-\\d, ]*)\\); +// (-?\\d+)\\b");

    public static void main(String[] args) throws IOException {
        Path root = Path.of(System.getProperty("project.root", "."));
        String readme = Files.readString(root.resolve("README.md"));
        exampleAnswersAsItSays(readme);
        everyCallIsTold(readme);
        everyTestIsTold(readme, root.resolve("src/test/java"));
        CHECK.end();
    }

    private static void exampleAnswersAsItSays(String readme) {
        int from = readme.indexOf("```java\n");
        int to = readme.indexOf("\n```\n", from);
        CHECK.due("README.md has an example", from >= 0 && to > from ? 1 : 0, 1);
        SwingYard x = new SwingYard();
        for (String line : readme.substring(from, to).split("\n")) {
            Matcher law = LAW.matcher(line);
            Matcher call = CALL.matcher(line);
            if (law.find()) {
                Check.law(x, law.group(1));
            } else if (call.find()) {
                CHECK.due("README.md: " + line, Calls.ask(x, call.group(1), numbers(call.group(2))),
                        Long.parseLong(call.group(3)));
            } else {
                CHECK.due("README.md: '" + line + "' is no call", line.startsWith("x.") ? 1 : 0, 0);
            }
        }
    }

    private static int[] numbers(String text) {
        String[] parts = text.isBlank() ? new String[0] : text.split(", *");
        int[] all = new int[parts.length];
        for (int i = 0; i < parts.length; i++) {
            all[i] = Integer.parseInt(parts[i]);
        }
        return all;
    }

    private static void everyCallIsTold(String readme) {
        for (Method m : SwingYard.class.getDeclaredMethods()) {
            if (Modifier.isPublic(m.getModifiers())) {
                Matcher row = Pattern.compile("\n\\| `" + m.getName() + "\\(([^)]*)\\)` \\|").matcher(readme);
                boolean found = row.find();
                CHECK.due("README.md has " + m.getName(), found ? 1 : 0, 1);
                int told = !found || row.group(1).isEmpty() ? 0 : row.group(1).split(",").length;
                CHECK.due("README.md: parameters of " + m.getName(), told, m.getParameterCount());
            }
        }
    }

    private static void everyTestIsTold(String readme, Path tests) throws IOException {
        try (var files = Files.list(tests)) {
            for (Path file : (Iterable<Path>) files::iterator) {
                String name = file.getFileName().toString().replace(".java", "");
                boolean told = readme.contains("| " + name + " |") || readme.contains("`" + name + "`");
                CHECK.due("README.md has " + name, told ? 1 : 0, 1);
            }
        }
    }
}
