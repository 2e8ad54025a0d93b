import com.sun.management.ThreadMXBean;
import java.io.IOException;
import java.lang.management.ManagementFactory;
import java.lang.reflect.Field;
import java.lang.reflect.Method;
import java.lang.reflect.Modifier;
import java.nio.file.Files;
import java.nio.file.Path;
import java.util.ArrayList;
import java.util.List;
import java.util.Set;
import java.util.TreeSet;
import java.util.regex.Matcher;
import java.util.regex.Pattern;

/** What of ../shared/LANGUAGE.md can be seen in the class's text or in what it makes; FaceTest has rule 1. */
public final class LanguageTest {
    private static final int MOST_CLASSES = 12;
    private static final int MOST_FIELDS = 20;
    private static final int MOST_PARAMETERS = 7;
    private static final int MOST_LINES = 60;
    // The room of a whole run has 7.3 million elements; a run of one object shall be far below.
    private static final long MOST_BYTES = 1_000_000;
    private static final Set<String> ALLOWED = Set.of("import java.util.Arrays;",
            "import java.util.NoSuchElementException;", "Arrays.copyOf", "Arrays.fill", "Math.floorMod", "Math.min",
            "System.arraycopy");
    private static final Set<String> ALLOWED_STATIC = Set.of("int", "long", "boolean", "char", "String");

    public static void main(String[] args) throws IOException {
        String text = Files.readString(Path.of("src/main/java/TimerRows.java"));
        String code = text.replaceAll("(?s)/\\*.*?\\*/", "").replaceAll("//[^\n]*", "");
        String bare = code.replaceAll("\"[^\"\n]*\"", "\"\"");
        library(bare);
        exceptions(code);
        wordsThatNeverStandThere(bare);
        lengthOfMethods(text);
        for (Class<?> type : classes()) {
            sizeOf(type);
        }
        Run.check("rule 11: too many classes", classes().size() > MOST_CLASSES, false);
        whatALongRunMakes();
        Run.end();
    }

    private static List<Class<?>> classes() {
        List<Class<?>> all = new ArrayList<>(List.of(TimerRows.class.getDeclaredClasses()));
        all.add(TimerRows.class);
        return all;
    }

    private static Set<String> found(String pattern, String text) {
        Set<String> found = new TreeSet<>();
        Matcher matcher = Pattern.compile(pattern).matcher(text);
        while (matcher.find()) {
            found.add(matcher.group());
        }
        return found;
    }

    private static void library(String bare) {
        Set<String> used = found("import [^;]*;", bare);
        used.addAll(found("\\b(Arrays|Collections|Integer|List|Long|Math|Objects|String|System|Thread)\\.\\w+", bare));
        used.removeAll(ALLOWED);
        Run.check("rule 4: of the library, but not known here as allowed", used, new TreeSet<>());
        Run.check("rule 4: names of packages in the code", found("\\bjavax?\\.\\w+\\.", bare), Set.of("java.util."));
    }

    private static void exceptions(String code) {
        Set<String> thrown = found("\\bthrow\\b[^;]*;", code);
        thrown.removeIf(x -> x.matches(
                "throw new (IllegalArgument|IllegalState|NoSuchElement)Exception\\(\"[a-z ,]+\"\\);"));
        Run.check("rule 6: other throws", thrown, new TreeSet<>());
    }

    /** The rules allow some of these in some places; the class does without, so that no place need be judged. */
    private static void wordsThatNeverStandThere(String bare) {
        String words = "\\b(try|catch|finally|synchronized|assert|package|instanceof|equals|hashCode"
                + "|toString|double|float|while|do)\\b|->|::|\\w+Exact\\b";
        Run.check("rules 3, 6, 7 and 9: words that the class does without", found(words, bare), new TreeSet<>());
        Run.check("rule 5: initialiser blocks", found("\\bstatic\\s*\\{", bare), new TreeSet<>());
    }

    private static void sizeOf(Class<?> type) {
        int fields = 0;
        for (Field field : type.getDeclaredFields()) {
            if (!Modifier.isStatic(field.getModifiers())) {
                fields++;
            } else {
                Run.check("rule 5: " + field, Modifier.isFinal(field.getModifiers())
                        && ALLOWED_STATIC.contains(field.getType().getSimpleName()), true);
            }
        }
        Run.check("rule 11: too many fields in " + type, fields > MOST_FIELDS, false);
        for (Method method : type.getDeclaredMethods()) {
            Run.check("rule 11: parameters of " + method, method.getParameterCount() > MOST_PARAMETERS, false);
        }
    }

    /** A method ends with the first brace that stands as deep as the line that it begins with. */
    private static void lengthOfMethods(String text) {
        Matcher method = Pattern.compile("(?m)^( {4}| {8})\\w[^;={}]*\\([^;{}]*\\{\n(.*\n)*?\\1\\}$").matcher(text);
        int methods = 0;
        while (method.find()) {
            methods++;
            String first = method.group().strip().split("\n")[0];
            Run.check("rule 11: lines of " + first, method.group().split("\n").length > MOST_LINES, false);
        }
        int due = classes().stream().mapToInt(type -> type.getDeclaredMethods().length).sum() + 1;
        Run.check("methods and the constructor, found in the text", methods, due);
    }

    /** The room that all calls share: what is made once is used again. */
    private static void whatALongRunMakes() {
        ThreadMXBean threads = (ThreadMXBean) ManagementFactory.getThreadMXBean();
        long least = Long.MAX_VALUE;
        long leastLater = Long.MAX_VALUE;
        // The least of several, since the machine makes things of its own when code runs for the first times.
        for (int i = 0; i < 5; i++) {
            long[] made = longRun(threads);
            least = Math.min(least, made[0]);
            leastLater = Math.min(leastLater, made[1]);
        }
        Run.check("rule 12: 512 dear calls of an object make " + least + " bytes", least < MOST_BYTES, true);
        Run.check("rule 12: bytes, when places and log are made", leastLater, 0);
    }

    /** How many bytes the whole run of 512 calls makes, and how many its later calls. */
    private static long[] longRun(ThreadMXBean threads) {
        long id = Thread.currentThread().getId();
        long before = threads.getThreadAllocatedBytes(id);
        TimerRows x = new TimerRows();
        for (int i = 0; i < 40; i++) {
            x.set(0, i, 1L, 1L, 50);
            x.row(i, 51L);
        }
        for (int i = 0; i < 3; i++) {
            x.keep();
        }
        x.pass(0, 51L);
        long middle = threads.getThreadAllocatedBytes(id);
        for (int i = 0; i < 107; i++) {
            x.back(i % 3);
            x.forget();
            x.keep();
            x.pass(0, 51L);
        }
        long after = threads.getThreadAllocatedBytes(id);
        return new long[] {after - before, after - middle};
    }
}
