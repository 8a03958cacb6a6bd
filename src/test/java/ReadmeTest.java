import java.io.IOException;
import java.lang.reflect.Method;
import java.lang.reflect.Modifier;
import java.net.URL;
import java.net.URLClassLoader;
import java.nio.file.Files;
import java.nio.file.Path;
import java.util.ArrayList;
import java.util.List;
import java.util.Set;
import java.util.TreeSet;
import java.util.regex.Matcher;
import java.util.regex.Pattern;
import javax.tools.JavaCompiler;
import javax.tools.ToolProvider;

/**
 * What README.md shows of using the class: its Java blocks are compiled as they stand, each with its calls held against
 * the answers behind them. Takes the page's path. It fails where a call has no answer or a method is not shown.
 */
public final class ReadmeTest {
    private static final Pattern BLOCK = Pattern.compile("(?ms)^```java\\n(.*?)^```$");
    private static final Pattern CALL = Pattern.compile("(x\\.(\\w+)\\((?:[^;']|'.')*\\));\\s+// (-?\\d+|BAD|NO|FULL|NONE): \\S.*");
    private static final Pattern WRITING = Pattern.compile("for \\(char \\w+ : \"[^\"]*\"\\.toCharArray\\(\\)\\) x\\.write\\(\\w+\\);");
    private static final String MAKING = "ThroatTracks x = new ThroatTracks();";
    private static final String SHOWN = "ShownInReadme";
    private static final List<String> rows = new ArrayList<>();
    private static final Set<String> shown = new TreeSet<>();
    private static int asked = 0;
    private static int wrong = 0;

    private ReadmeTest() {
    }

    public static void main(String[] args) throws Exception {
        String page = Files.readString(Path.of(args.length > 0 ? args[0] : "README.md"));
        runShown(programOf(page));
        check(asked > 0 && asked == rows.size(), asked + " of " + rows.size() + " rows were asked");
        check(shown.equals(namesOfFace()), "the page shows but " + shown);
        System.out.println("readme: " + asked + " calls, " + wrong + " wrong");
        if (wrong != 0) System.exit(1);
    }

    private static void check(boolean good, String what) {
        if (!good) {
            wrong++;
            System.out.println("readme: " + what);
        }
    }

    /** For the program made of the page, which another class loader holds. */
    public static void due(int row, int got, int want) {
        asked++;
        check(got == want, rows.get(row) + " answered " + got);
    }

    private static String programOf(String page) {
        StringBuilder b = new StringBuilder("public final class " + SHOWN + " {\n");
        StringBuilder all = new StringBuilder("    public static void all() {\n");
        Matcher block = BLOCK.matcher(page);
        for (int k = 0; block.find(); k++) {
            b.append("    private static void block").append(k).append("() {\n");
            for (String line : block.group(1).split("\n")) b.append("        ").append(statementOf(line)).append('\n');
            b.append("    }\n");
            all.append("        block").append(k).append("();\n");
        }
        return b.append(all).append("    }\n}\n").toString();
    }

    private static String statementOf(String line) {
        Matcher call = CALL.matcher(line);
        if (!call.matches()) {
            check(line.isBlank() || line.equals(MAKING) || WRITING.matcher(line).matches(), "a row without an answer: " + line);
            return line;
        }
        rows.add(line);
        shown.add(call.group(2));
        String due = call.group(3);
        String want = due.matches("-?\\d+") ? due : "ThroatTracks." + due;
        return "ReadmeTest.due(" + (rows.size() - 1) + ", " + call.group(1) + ", " + want + ");";
    }

    private static Set<String> namesOfFace() {
        Set<String> names = new TreeSet<>();
        for (Method m : ThroatTracks.class.getDeclaredMethods()) {
            if (Modifier.isPublic(m.getModifiers())) names.add(m.getName());
        }
        return names;
    }

    private static void runShown(String program) throws Exception {
        Path home = Files.createTempDirectory("readme");
        try {
            Path file = Files.writeString(home.resolve(SHOWN + ".java"), program);
            JavaCompiler compiler = ToolProvider.getSystemJavaCompiler();
            int code = compiler.run(null, null, null, "-cp", System.getProperty("java.class.path"), "-d", home.toString(), file.toString());
            check(code == 0, "the blocks do not compile");
            if (code == 0) callAll(home);
        } finally {
            remove(home);
        }
    }

    private static void callAll(Path home) throws Exception {
        try (URLClassLoader loader = new URLClassLoader(new URL[] {home.toUri().toURL()}, ReadmeTest.class.getClassLoader())) {
            loader.loadClass(SHOWN).getMethod("all").invoke(null);
        }
    }

    private static void remove(Path home) throws IOException {
        for (String name : new String[] {SHOWN + ".java", SHOWN + ".class"}) Files.deleteIfExists(home.resolve(name));
        Files.delete(home);
    }
}
