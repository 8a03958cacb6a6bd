import java.io.IOException;
import java.lang.management.ManagementFactory;
import java.lang.reflect.Constructor;
import java.lang.reflect.Field;
import java.lang.reflect.Method;
import java.lang.reflect.Modifier;
import java.nio.file.Files;
import java.nio.file.Path;
import java.util.Arrays;
import java.util.List;
import java.util.Set;
import java.util.TreeSet;
import java.util.regex.Matcher;
import java.util.regex.Pattern;

/** The face of the document and the rules of LANGUAGE.md, as far as a test can see them. Takes the source's path. */
public final class LanguageTest {
    private static final Set<String> FACE = new TreeSet<>(Arrays.asList(
        "write(int)", "wipe()", "fault()", "lay()", "route(int,int)", "train(int,int)", "give(int,int)", "take(int)", "why(int,int)",
        "clash(int,int,int,int)", "late(int,int)", "wish(int,int)", "way(int,int)", "adopt(int)", "without(int)", "undo()", "on(int,int)",
        "taken(int)", "use(int,int)", "count(int)"));
    private static int wrong = 0;

    private static void check(boolean good, String what) {
        if (!good) {
            wrong++;
            System.out.println("language: " + what);
        }
    }

    public static void main(String[] args) throws IOException {
        String source = Files.readString(Path.of(args.length > 0 ? args[0] : "src/main/java/ThroatTracks.java"));
        face();
        inside();
        words(source);
        lengths(source);
        room();
        System.out.println("language: " + wrong + " wrong");
        if (wrong != 0) System.exit(1);
    }

    private static String shape(Method m) {
        StringBuilder b = new StringBuilder(m.getName()).append("(");
        for (Class<?> p : m.getParameterTypes()) b.append(b.charAt(b.length() - 1) == '(' ? "" : ",").append(p.getSimpleName());
        return b.append(")").toString();
    }

    private static void face() {
        check(Modifier.isPublic(ThroatTracks.class.getModifiers()) && Modifier.isFinal(ThroatTracks.class.getModifiers()), "public and final");
        Set<String> seen = new TreeSet<>();
        for (Method m : ThroatTracks.class.getDeclaredMethods()) {
            if (!Modifier.isPrivate(m.getModifiers())) {
                check(Modifier.isPublic(m.getModifiers()) && m.getReturnType() == int.class, m + " is not of the face");
                seen.add(shape(m));
            }
        }
        check(seen.equals(FACE), "the face has " + seen);
        Constructor<?>[] made = ThroatTracks.class.getDeclaredConstructors();
        check(made.length == 1 && Modifier.isPublic(made[0].getModifiers()) && made[0].getParameterCount() == 0, "one public constructor");
        Set<String> constants = new TreeSet<>();
        for (Field f : ThroatTracks.class.getDeclaredFields()) {
            if (!Modifier.isPrivate(f.getModifiers())) constants.add(f.getName());
        }
        check(constants.equals(new TreeSet<>(List.of("BAD", "NO", "FULL", "NONE"))), "constants " + constants);
        check(ThroatTracks.BAD == -1 && ThroatTracks.NO == -2 && ThroatTracks.FULL == -3 && ThroatTracks.NONE == -4, "values of constants");
    }

    private static void inside() {
        Set<String> names = new TreeSet<>();
        for (String one : FACE) names.add(one.substring(0, one.indexOf('(')));
        Class<?>[] classes = ThroatTracks.class.getDeclaredClasses();
        check(classes.length <= 11, "too many classes");
        for (Class<?> c : classes) {
            check(Modifier.isStatic(c.getModifiers()), c + " is not static");
            int fields = 0;
            for (Field f : c.getDeclaredFields()) {
                if (!Modifier.isStatic(f.getModifiers())) fields++;
                else check(Modifier.isFinal(f.getModifiers()), f + " is not final");
            }
            check(fields <= 20, c + " has " + fields + " fields");
            for (Method m : c.getDeclaredMethods()) {
                check(!names.contains(m.getName()), m + " has a name of the face");
                check(m.getParameterCount() <= 7, m + " has too many parameters");
            }
        }
    }

    private static String bare(String source) {
        String noText = source.replaceAll("\"[^\"\\n]*\"", "\"\"");
        return noText.replaceAll("(?s)/\\*.*?\\*/", "").replaceAll("//[^\\n]*", "");
    }

    private static void words(String source) {
        String code = bare(source);
        String[] none = {"throw", "throws", "try", "catch", "finally", "synchronized", "assert", "import", "package", "protected", "Object",
            "hashCode", "toString", "volatile", "native", "Thread", "Random", "Iterator", "var"};
        for (String word : none) check(!Pattern.compile("\\b" + word + "\\b").matcher(code).find(), "the word " + word);
        for (String mark : new String[] {"->", "::", "@"}) check(!code.contains(mark), "the mark " + mark);
        Matcher library = Pattern.compile("\\b(System|Math|Integer|Long|Arrays)\\.(\\w+)").matcher(code);
        Set<String> allowed = Set.of("System.arraycopy", "Math.max", "Math.min");
        while (library.find()) check(allowed.contains(library.group()), "the library's " + library.group());
        for (char c : source.toCharArray()) check(c < 128, "a letter beyond ASCII");
    }

    /** A method begins at a line that ends in ") {", indented as members of the class or of one inside it are. */
    private static void lengths(String source) {
        int lines = 0;
        for (String line : source.split("\n")) {
            lines = line.matches("( {4}| {8})[a-z].*\\) \\{") ? 1 : lines + 1;
            if (line.matches("( {4}| {8})\\}")) check(lines <= 60 || line.equals("    }"), "a method has " + lines + " lines");
        }
    }

    /** No call makes an object, as README.md says: so all calls of a run stay within the room that a run has. */
    private static void room() {
        com.sun.management.ThreadMXBean meter = (com.sun.management.ThreadMXBean) ManagementFactory.getThreadMXBean();
        long id = Thread.currentThread().getId();
        String text = "yard 2,3;path 0,0,1;path 0,1,1,2;path 1,0,4;path 1,1;path 1,2,3;come 0,1,10,20,1;come 1,0,12,18,9;come 1,1,22,30,0;pair 0,2;span 2;";
        int[] letters = text.chars().toArray();
        ThroatTracks x = new ThroatTracks();
        // The first time the machine itself may make something, such as what it keeps of a class.
        int sum = callEach(x, letters);
        long start = meter.getThreadAllocatedBytes(id);
        long before = meter.getThreadAllocatedBytes(id);
        sum += callEach(x, letters);
        long made = meter.getThreadAllocatedBytes(id) - before - (before - start);
        check(made == 0, "all calls made " + made + " bytes (" + sum + ")");
        check(x.count(7) == text.length() && x.count(2) == 3, "the text of this test is not laid");
    }

    private static int callEach(ThroatTracks x, int[] letters) {
        int sum = x.wipe();
        for (int k = 0; k < letters.length; k++) sum += x.write(letters[k]);
        sum += x.fault() + x.lay();
        for (int k = 0; k < 12; k++) {
            int i = k % 3;
            sum += x.route(i, k) + x.train(i, k) + x.give(i, k & 1) + x.why(i, k & 3) + x.clash(0, i, i, k & 3) + x.late(i, k - 5);
            sum += x.wish(i, k & 3) + x.way(k & 1, k % 6 - 3) + x.adopt(k & 1) + x.without(k) + x.take(i) + x.undo();
            sum += x.on(i, k) + x.taken(k + 9) + x.use(k & 1, i) + x.count(k);
        }
        return sum;
    }
}
