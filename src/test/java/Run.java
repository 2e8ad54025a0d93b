import java.lang.reflect.InvocationTargetException;
import java.lang.reflect.Method;
import java.util.ArrayList;
import java.util.Arrays;
import java.util.Comparator;
import java.util.List;
import java.util.Set;

/** A run of calls, written as texts ("set 0 5 10 3 2"), each with the answer that is due. */
final class Run {
    static final long LOW = Long.MIN_VALUE;
    static final long HIGH = Long.MAX_VALUE;
    static final int MIN = Integer.MIN_VALUE;
    static final int MAX = Integer.MAX_VALUE;
    static final long LAST_TIME = 1_000_000_000_000L;

    // The document promises nothing of later calls, so no test may lean on them.
    private static final int CALLS_OF_AN_OBJECT = 512;
    private static final Set<String> CHANGING = Set.of("clear", "set", "move", "cancel", "row", "first", "pass",
            "keep", "back", "forget");

    private static int wrong = 0;
    private static int asked = 0;

    private final String name;
    private final List<String> changes = new ArrayList<>();
    private TimerRows rows = new TimerRows();
    private int used = 0;

    Run(String name) {
        this.name = name;
    }

    /** Runs each static method of a test class that takes nothing, so that none is forgotten. */
    static void all(Class<?> tests) {
        Method[] methods = tests.getDeclaredMethods();
        Arrays.sort(methods, Comparator.comparing(Method::getName));
        for (Method method : methods) {
            if (method.getParameterCount() == 0 && !method.isSynthetic()) {
                runOne(method);
            }
        }
        end();
    }

    private static void runOne(Method method) {
        int before = wrong;
        try {
            method.invoke(null);
        } catch (InvocationTargetException | IllegalAccessException e) {
            throw new AssertionError(method.getName(), e);
        }
        if (wrong != before) {
            System.out.println("-- in " + method.getName());
        }
    }

    static void end() {
        System.out.println(asked + " answers, " + wrong + " not as due");
        if (wrong != 0) {
            System.exit(1);
        }
    }

    static void check(String what, Object got, Object want) {
        asked++;
        if (!String.valueOf(got).equals(String.valueOf(want))) {
            wrong++;
            System.out.println(what + " answered " + got + ", due is " + want);
        }
    }

    Run due(String call, Object want) {
        check(name + ": " + call, answer(call), want);
        return this;
    }

    /** The last argument counts from 0: dueEach("of", 3, 7) asks "of 0", due is 3, and "of 1", due is 7. */
    Run dueEach(String call, Object... wants) {
        for (int i = 0; i < wants.length; i++) {
            due(call + " " + i, wants[i]);
        }
        return this;
    }

    /** The same call so many times, each answered by the next number. */
    Run numbered(int times, String call, int firstNumber) {
        for (int i = 0; i < times; i++) {
            due(call, firstNumber + i);
        }
        return this;
    }

    /** All that done tells of the i-th: whether a timer, number, key, time, often. */
    Run dueDone(int i, Object... wants) {
        return dueEach("done " + i, wants);
    }

    /** What the last pass did, and nothing else: "t3" is the timer of number 3, "r0" the row of number 0. */
    Run dueOrder(String... items) {
        due("of 6", items.length);
        for (int i = 0; i < items.length; i++) {
            due("done " + i + " 0", items[i].charAt(0) == 't' ? 1 : 0).due("done " + i + " 1", items[i].substring(1));
        }
        return this;
    }

    Run argument(String call) {
        return refused(call, "throws.IllegalArgumentException");
    }

    Run state(String call) {
        return refused(call, "throws.IllegalStateException");
    }

    Run element(String call) {
        return refused(call, "throws.NoSuchElementException");
    }

    /** The call once with each of the numbers in the place of its '%'. */
    Run argumentEach(String call, long... numbers) {
        for (long number : numbers) {
            argument(call.replace("%", Long.toString(number)));
        }
        return this;
    }

    Run elementEach(String call, long... numbers) {
        for (long number : numbers) {
            element(call.replace("%", Long.toString(number)));
        }
        return this;
    }

    /** A refused call is compared on two other objects, one of which never got it: looking may change them. */
    private Run refused(String call, String want) {
        due(call, want);
        check(name + ": what is seen after " + call, twin(call).seenInAll(), twin().seenInAll());
        return this;
    }

    private Run twin(String... more) {
        Run twin = new Run(name);
        twin.changes.addAll(changes);
        twin.changes.addAll(List.of(more));
        twin.renew();
        return twin;
    }

    private String seenInAll() {
        StringBuilder all = new StringBuilder();
        see(all, "done", "of 6");
        seeWhatCanBeKept(all);
        int kept = Integer.parseInt(answer("of 5"));
        for (int place = 0; place < kept; place++) {
            all.append("\nplace ").append(place).append(' ').append(answer("back " + place));
            seeWhatCanBeKept(all);
        }
        return all.toString();
    }

    private void seeWhatCanBeKept(StringBuilder all) {
        for (String call : "of 0,of 1,of 2,of 3,of 4,of 5,now 0,now 1,next 0,next 1,first true".split(",")) {
            all.append(' ').append(answer(call));
        }
        see(all, "told", "of 2");
        // Only a pass tells of the rows that wait.
        for (int clock = 0; clock < 2; clock++) {
            all.append("\npass ").append(answer("pass " + clock + " " + LAST_TIME));
            see(all, "done", "of 6");
        }
    }

    private void see(StringBuilder all, String call, String howMany) {
        int count = Integer.parseInt(answer(howMany));
        for (int i = 0; i < count; i++) {
            all.append("\n").append(call).append(' ').append(i);
            for (int what = 0; what < 5; what++) {
                all.append(' ').append(answer(call + " " + i + " " + what));
            }
        }
    }

    /** How many calls more the object is used for, before another one takes its place. */
    int left() {
        return CALLS_OF_AN_OBJECT - used;
    }

    String answer(String call) {
        if (left() == 0) {
            renew();
        }
        String answer = tried(call);
        if (CHANGING.contains(call.split(" ")[0]) && !answer.startsWith("throws.")) {
            changes.add(call);
        }
        return answer;
    }

    /** Another object, brought to where this one is by the calls that changed it. */
    private void renew() {
        rows = new TimerRows();
        used = 0;
        for (String call : changes) {
            tried(call);
        }
        if (left() <= 0) {
            throw new AssertionError(name + ": too many calls");
        }
    }

    private String tried(String call) {
        used++;
        try {
            return String.valueOf(called(call.split(" ")));
        } catch (RuntimeException e) {
            return "throws." + e.getClass().getSimpleName();
        }
    }

    private Object called(String[] w) {
        switch (w[0]) {
            case "clear": return rows.clear();
            case "set": return rows.set(small(w[1]), big(w[2]), big(w[3]), big(w[4]), small(w[5]));
            case "move": return rows.move(small(w[1]), big(w[2]));
            case "cancel": return rows.cancel(small(w[1]));
            case "row": return rows.row(big(w[1]), big(w[2]));
            case "first": return rows.first(Boolean.parseBoolean(w[1]));
            case "pass": return rows.pass(small(w[1]), big(w[2]));
            case "done": return rows.done(small(w[1]), small(w[2]));
            case "told": return rows.told(small(w[1]), small(w[2]));
            case "next": return rows.next(small(w[1]));
            case "waiting": return rows.waiting(small(w[1]), big(w[2]), big(w[3]), big(w[4]));
            case "keep": return rows.keep();
            case "back": return rows.back(small(w[1]));
            case "forget": return rows.forget();
            case "task": return rows.task(big(w[1]), small(w[2]));
            case "load": return rows.load(small(w[1]), small(w[2]));
            case "of": return rows.of(small(w[1]));
            case "now": return rows.now(small(w[1]));
            default: throw new AssertionError("no call " + w[0]);
        }
    }

    private static int small(String word) {
        return Integer.parseInt(word);
    }

    private static long big(String word) {
        return Long.parseLong(word);
    }
}
