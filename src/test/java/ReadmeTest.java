import java.lang.reflect.Method;
import java.nio.file.Files;
import java.nio.file.Path;
import java.util.Arrays;
import java.util.List;
import java.util.regex.Matcher;
import java.util.regex.Pattern;

/** The calls that README.md shows, each with the answer that stands behind it, on one object. */
public final class ReadmeTest {
    private static final Pattern CALL = Pattern.compile("x\\.(\\w+)\\(([^)]*)\\);\\s*// (-?\\w+)(:.*)?");
    private static final Due due = new Due();

    private static int number(String word) throws Exception {
        String bare = word.trim().replace("StrokesHeard.", "");
        return bare.matches("[A-Z]+") ? StrokesHeard.class.getField(bare).getInt(null) : Integer.decode(bare);
    }

    private static int call(StrokesHeard x, String name, String list) throws Exception {
        String[] words = list.isEmpty() ? new String[0] : list.split(",");
        Object[] values = new Object[words.length];
        for (int i = 0; i < words.length; i++) values[i] = number(words[i]);
        Class<?>[] types = new Class<?>[words.length];
        Arrays.fill(types, int.class);
        return (Integer) StrokesHeard.class.getMethod(name, types).invoke(x, values);
    }

    private static void shownCalls(List<String> lines) throws Exception {
        StrokesHeard x = null;
        boolean code = false;
        int shown = 0;
        for (String line : lines) {
            boolean fence = line.startsWith("```");
            if (fence) code = line.equals("```java");
            if (fence || !code) continue;
            if (line.equals("StrokesHeard x = new StrokesHeard();")) {
                x = new StrokesHeard();
                continue;
            }
            Matcher call = CALL.matcher(line);
            boolean read = x != null && call.matches();
            due.is("a call with its answer: " + line, read ? 1 : 0, 1);
            if (read) {
                due.is(line, call(x, call.group(1), call.group(2)), number(call.group(3)));
                shown++;
            }
        }
        due.is("calls are shown: " + shown, shown > 30 ? 1 : 0, 1);
    }

    private static void allNamed(String page) {
        for (Method m : StrokesHeard.class.getDeclaredMethods()) {
            boolean open = java.lang.reflect.Modifier.isPublic(m.getModifiers());
            if (open) due.is("the page names " + m.getName(), page.contains("`" + m.getName() + "`") ? 1 : 0, 1);
        }
        for (String name : "BAD NO FULL NONE NOTHING KIND INDEX SIZE".split(" ")) {
            due.is("the page names " + name, page.contains("| `" + name + "` |") ? 1 : 0, 1);
        }
    }

    /** Every test of the project stands in the page's table. */
    private static void allTestsNamed(String page) throws Exception {
        try (var files = Files.list(Path.of("src/test/java"))) {
            for (Path file : (Iterable<Path>) files::iterator) {
                String name = file.getFileName().toString().replace(".java", "");
                if (name.endsWith("Test")) due.is("the page names " + name, page.contains("| " + name) ? 1 : 0, 1);
            }
        }
    }

    public static void main(String[] args) throws Exception {
        Path page = Path.of("README.md");
        shownCalls(Files.readAllLines(page));
        allNamed(Files.readString(page));
        allTestsNamed(Files.readString(page));
        due.end();
    }
}
