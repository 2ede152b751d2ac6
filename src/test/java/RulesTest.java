import java.lang.management.ManagementFactory;
import java.lang.reflect.Constructor;
import java.lang.reflect.Field;
import java.lang.reflect.Method;
import java.lang.reflect.Modifier;
import java.nio.file.Files;
import java.nio.file.Path;
import java.util.HashSet;
import java.util.Set;
import java.util.regex.Matcher;
import java.util.regex.Pattern;

/** The rules of LANGUAGE.md that a test can look at, and the room that a run takes. */
public final class RulesTest {
    private static final Due due = new Due();
    private static final Set<String> FACE = Set.of(("clock told as turns set strokes total ear deal seed minutes bed note fits may "
        + "next parts astray right telling like behind listen fee fine feed trim text textTold why sheet mark pour reads copy "
        + "lay ask item rest tell check keep back count").split(" "));

    private static void face() {
        Set<String> open = new HashSet<>();
        Set<String> closed = new HashSet<>();
        for (Method m : StrokesHeard.class.getDeclaredMethods()) {
            (Modifier.isPrivate(m.getModifiers()) ? closed : open).add(m.getName());
        }
        for (Class<?> inside : StrokesHeard.class.getDeclaredClasses()) {
            due.is(inside + " is static", Modifier.isStatic(inside.getModifiers()) ? 1 : 0, 1);
            due.is(inside + " is not public", Modifier.isPublic(inside.getModifiers()) ? 1 : 0, 0);
            for (Method m : inside.getDeclaredMethods()) closed.add(m.getName());
        }
        due.is("methods of the face: " + open, open.equals(FACE) ? 1 : 0, 1);
        closed.retainAll(FACE);
        due.is("own methods with a name of the face: " + closed, closed.size(), 0);
        int constants = 0;
        for (Field f : StrokesHeard.class.getDeclaredFields()) {
            if (!Modifier.isPrivate(f.getModifiers())) constants++;
        }
        due.is("constants", constants, 8);
        Constructor<?>[] makers = StrokesHeard.class.getDeclaredConstructors();
        due.is("constructors", makers.length, 1);
        due.is("classes", StrokesHeard.class.getDeclaredClasses().length < 12 ? 1 : 0, 1);
    }

    /** Static fields are final and of the sorts that rule 5 names; a class has some twenty others at most (rule 11). */
    private static void fields(Class<?> it) {
        Set<Class<?>> sorts = Set.of(int.class, long.class, boolean.class, char.class, String.class,
            int[].class, long[].class, char[].class, byte[].class);
        int own = 0;
        for (Field f : it.getDeclaredFields()) {
            if (!Modifier.isStatic(f.getModifiers())) {
                own++;
                continue;
            }
            due.is(f + " is final", Modifier.isFinal(f.getModifiers()) ? 1 : 0, 1);
            due.is(f + " is of a sort that a static field may be of", sorts.contains(f.getType()) ? 1 : 0, 1);
        }
        due.is("fields of " + it + ": " + own, own <= 20 ? 1 : 0, 1);
        for (Class<?> inside : it.getDeclaredClasses()) fields(inside);
    }

    private static void constants() {
        int[] is = {StrokesHeard.BAD, StrokesHeard.NO, StrokesHeard.FULL, StrokesHeard.NONE,
            StrokesHeard.NOTHING, StrokesHeard.KIND, StrokesHeard.INDEX, StrokesHeard.SIZE};
        int[] last = {1, 2, 3, 5, 11, 12, 13, 14};
        for (int i = 0; i < 8; i++) due.is("constant " + i, is[i], -1000000000 - last[i]);
    }

    private static void words() throws Exception {
        String source = Files.readString(Path.of("src/main/java/StrokesHeard.java"));
        String bare = source.replaceAll("(?s)/\\*.*?\\*/", "").replaceAll("//[^\n]*", "")
            .replaceAll("\"[^\"]*\"", "\"\"").replaceAll("'.'", "' '");
        for (String word : "throw throws try catch synchronized assert Object hashCode package var yield double".split(" ")) {
            due.is("the word " + word, Pattern.compile("\\b" + word + "\\b").matcher(bare).find() ? 1 : 0, 0);
        }
        for (String sign : new String[] {"->", "::", "Exact", "@", "toString", "[][]"}) {
            due.is("the sign " + sign, bare.contains(sign) ? 1 : 0, 0);
        }
        Matcher imports = Pattern.compile("import (.*);").matcher(bare);
        while (imports.find()) due.is(imports.group(), imports.group(1).equals("java.util.Arrays") ? 1 : 0, 1);
        Matcher library = Pattern.compile("\\b(?:Math|Arrays|System|Integer|Long)\\.(\\w+)").matcher(bare);
        Set<String> allowed = Set.of("max", "min", "abs", "bitCount", "floorMod", "fill", "copyOf", "arraycopy");
        while (library.find()) due.is(library.group(), allowed.contains(library.group(1)) ? 1 : 0, 1);
        Matcher lists = Pattern.compile("\\(([^()]*)\\) \\{").matcher(bare);
        while (lists.find()) due.is(lists.group(), lists.group(1).split(",").length <= 7 ? 1 : 0, 1);
        methodLengths(bare.split("\n"));
    }

    /** A method begins with a line that ends in ") {" and stands below a class, and ends at the same depth. */
    private static void methodLengths(String[] lines) {
        for (int i = 0; i < lines.length; i++) {
            String indent = lines[i].startsWith("        ") ? "        " : "    ";
            boolean begins = lines[i].matches(" {4}( {4})?[a-zA-Z].*\\) \\{") && !lines[i].matches(" *(if|for|while|switch|else|do)\\b.*");
            if (!begins) continue;
            int end = i;
            while (!lines[end].equals(indent + "}")) end++;
            due.is("lines of " + lines[i].trim(), end - i < 60 ? 1 : 0, 1);
        }
    }

    private static long bytesMade() {
        return ((com.sun.management.ThreadMXBean) ManagementFactory.getThreadMXBean()).getCurrentThreadAllocatedBytes();
    }

    /** A run of 512 calls of the dearest sort must stay far below 7.3 million elements. */
    private static void room() {
        long before = bytesMade();
        StrokesHeard x = new StrokesHeard();
        long object = bytesMade() - before;
        x.deal(6);
        x.sheet(0, 1, 24);
        x.minutes(50);
        x.keep();
        x.telling();
        before = bytesMade();
        for (int i = 0; i < 50; i++) {
            x.telling();
            x.right(i % 6, 0);
            x.astray(0);
            x.like(0, 0);
            x.listen();
            x.behind(100, 3);
            x.may(0);
            x.check(30);
            x.back();
            x.keep();
        }
        long calls = bytesMade() - before;
        due.is("an object takes " + object + " bytes", object < 40000 ? 1 : 0, 1);
        due.is("five hundred calls take " + calls + " bytes", calls < 10000 ? 1 : 0, 1);
    }

    public static void main(String[] args) throws Exception {
        face();
        fields(StrokesHeard.class);
        constants();
        words();
        room();
        due.end();
    }
}
