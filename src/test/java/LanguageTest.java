import java.io.IOException;
import java.lang.reflect.Field;
import java.lang.reflect.Modifier;
import java.nio.file.Files;
import java.nio.file.Path;
import java.util.List;
import java.util.regex.Matcher;
import java.util.regex.Pattern;

/** Rules of LANGUAGE.md that can be seen in the text of the class, or in what a run makes. */
public final class LanguageTest {
    private static final Check CHECK = new Check();
    private static final List<Class<?>> CONSTANTS = List.of(int.class, long.class, boolean.class, char.class,
            String.class, int[].class, long[].class, char[].class, byte[].class);

    public static void main(String[] args) throws IOException {
        Path root = Path.of(System.getProperty("project.root", "."));
        String text = Files.readString(root.resolve("src/main/java/SwingYard.java"));
        String code = withoutCommentsAndTexts(text);
        for (int i = 0; i < text.length(); i++) {
            if (text.charAt(i) > 126) {
                CHECK.due("a sign beyond 126 at " + i, text.charAt(i), 0);
            }
        }
        never(code, "a word that is left out",
                "\\b(throw|throws|try|catch|finally|synchronized|assert|package|import|protected|volatile|native|var)\\b");
        never(code, "a lambda or a method reference", "->|::");
        never(code, "an anonymous class", "\\bnew\\s+\\w+\\s*\\([^()]*\\)\\s*\\{");
        never(code, "a class inside that is not static", "\\bprivate\\s+(final\\s+|abstract\\s+)*class\\b");
        never(code, "a static field that can change", "\\bstatic\\s+(?!final\\b)\\w+(\\[\\])?\\s+\\w+\\s*[=;]");
        never(code, "a function that may throw", "Exact\\b");
        never(code, "a library beside the one that is listed",
                "\\b(Random|Scanner|Thread|Object|Optional|Stream|HashMap|Map|Set|java|Collections|Runtime|Class)\\b");
        never(code, "System but for arraycopy", "\\bSystem\\.(?!arraycopy\\b)");
        methodsAreShort(code);
        CHECK.due("private methods with a name of the face", privateNamesOfTheFace(code), 0);
        classesAreAsTold();
        callsMakeNothing();
        CHECK.end();
    }

    private static String withoutCommentsAndTexts(String text) {
        return text.replaceAll("(?s)/\\*.*?\\*/", " ").replaceAll("//[^\n]*", " ")
                .replaceAll("\"[^\"\n]*\"", "\"\"").replaceAll("'[^'\n]'", "' '");
    }

    private static void never(String code, String what, String pattern) {
        Matcher m = Pattern.compile(pattern).matcher(code);
        boolean found = m.find();
        CHECK.due(what + (found ? " ('" + m.group() + "')" : ""), found ? 1 : 0, 0);
    }

    /** A method of a class begins behind 4 or 8 blanks and ends with a } behind as many. */
    private static void methodsAreShort(String code) {
        Matcher m = Pattern.compile("\n( {4}| {8})(?! )([^\n;=]*)\\(([^\n]*)\\) \\{\n(?s:.*?)\n\\1\\}").matcher(code);
        int methods = 0;
        while (m.find()) {
            methods++;
            long lines = m.group().lines().count();
            CHECK.due("lines of " + m.group(2) + " above 60", Math.max(60, lines), 60);
            CHECK.due("parameters of " + m.group(2) + " above 7", Math.max(7, m.group(3).split(",").length), 7);
            CHECK.due("calls itself, and is not private and static: " + m.group(2), callsItselfWrongly(m) ? 1 : 0, 0);
        }
        CHECK.due("the methods were found", methods > 60 ? 1 : 0, 1);
    }

    /** Rule 8 lets only a private static method call itself; others may call one another. */
    private static boolean callsItselfWrongly(Matcher method) {
        String head = method.group(2);
        String name = head.substring(head.lastIndexOf(' ') + 1);
        String body = method.group().substring(method.group().indexOf("{\n"));
        boolean itself = Pattern.compile("(?<![.\\w]|new )" + name + "\\(").matcher(body).find();
        return itself && !head.startsWith("private static ");
    }

    private static int privateNamesOfTheFace(String code) {
        int found = 0;
        Matcher m = Pattern.compile("\n    public (?:int|long) (\\w+)\\(").matcher(code);
        while (m.find()) {
            found += Pattern.compile("\\bprivate [\\w\\[\\] ]+ " + m.group(1) + "\\(").matcher(code).find() ? 1 : 0;
        }
        return found;
    }

    /** Rules 1, 2, 5 and 11, as far as the compiled class shows them. */
    private static void classesAreAsTold() {
        Class<?>[] inside = SwingYard.class.getDeclaredClasses();
        CHECK.due("classes above 12", Math.max(12, 1 + inside.length), 12);
        fieldsAreAsTold(SwingYard.class);
        for (Class<?> one : inside) {
            int modifiers = one.getModifiers();
            CHECK.due(one + " is static", Modifier.isStatic(modifiers) ? 1 : 0, 1);
            CHECK.due(one + " is seen from outside", modifiers & (Modifier.PUBLIC | Modifier.PROTECTED), 0);
            CHECK.due("classes inside " + one, one.getDeclaredClasses().length, 0);
            fieldsAreAsTold(one);
        }
    }

    private static void fieldsAreAsTold(Class<?> one) {
        int own = 0;
        for (Field f : one.getDeclaredFields()) {
            boolean constant = Modifier.isStatic(f.getModifiers());
            own += constant ? 0 : 1;
            if (constant) {
                CHECK.due(f + " is final", Modifier.isFinal(f.getModifiers()) ? 1 : 0, 1);
                CHECK.due(f + " is of a type for constants", CONSTANTS.contains(f.getType()) ? 1 : 0, 1);
            }
        }
        CHECK.due("fields of " + one + " above 20", Math.max(20, own), 20);
    }

    /** All rows are made with the object: 512 of the dearest calls make next to nothing more. */
    private static void callsMakeNothing() {
        com.sun.management.ThreadMXBean counter =
                (com.sun.management.ThreadMXBean) java.lang.management.ManagementFactory.getThreadMXBean();
        long thread = Thread.currentThread().getId();
        dearCalls(64);
        long before = counter.getThreadAllocatedBytes(thread);
        dearCalls(512);
        long made = counter.getThreadAllocatedBytes(thread) - before;
        CHECK.due("bytes made by 512 calls above 40000", Math.max(40000, made), 40000);
    }

    private static void dearCalls(int calls) {
        SwingYard x = new SwingYard();
        x.begin(300000);
        x.write('v');
        x.write('>');
        x.write('0');
        for (int i = 4; i + 14 <= calls; i += 14) {
            x.tick(500);
            x.peak(500);
            x.gain(500);
            x.worth(3, 4, 500);
            x.begins();
            x.best(12, 3);
            x.when(4, 50, 40, 0);
            x.far(120);
            x.farthest(120);
            x.swaps(500, 1);
            x.simplest(300);
            x.image(i % 2);
            x.from(i % 2);
            x.digest();
        }
    }
}
