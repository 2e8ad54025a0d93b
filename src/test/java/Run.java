import java.lang.reflect.InvocationTargetException;
import java.lang.reflect.Method;

/** A run of calls on one new object, written as texts ("set 0 5 10 3 2"), each with the answer that is due. */
final class Run {
    private static final String ARGUMENT = "throws.IllegalArgumentException";
    private static final String STATE = "throws.IllegalStateException";
    private static final String ELEMENT = "throws.NoSuchElementException";

    private static int wrong = 0;
    private static int asked = 0;

    private final String name;
    private final TimerRows rows = new TimerRows();

    Run(String name) {
        this.name = name;
    }

    static void end() {
        System.out.println(asked + " answers, " + wrong + " not as due");
        if (wrong != 0) {
            System.exit(1);
        }
    }

    static void check(String what, Object got, Object want) {
        asked++;
        if (!String.valueOf(got).equals(String.valueOf(want))) {
            wrong++;
            System.out.println(what + " answered " + got + ", due is " + want);
        }
    }

    Run due(String call, Object want) {
        check(name + ": " + call, answer(call), want);
        return this;
    }

    /** The last argument counts from 0: dueEach("of", 3, 7) asks "of 0", due is 3, and "of 1", due is 7. */
    Run dueEach(String call, Object... wants) {
        for (int i = 0; i < wants.length; i++) {
            due(call + " " + i, wants[i]);
        }
        return this;
    }

    /** All that done tells of the i-th: whether a timer, number, key, time, often. */
    Run dueDone(int i, Object... wants) {
        return dueEach("done " + i, wants);
    }

    Run argument(String call) {
        return refused(call, ARGUMENT);
    }

    Run state(String call) {
        return refused(call, STATE);
    }

    Run element(String call) {
        return refused(call, ELEMENT);
    }

    private Run refused(String call, String want) {
        String before = seen();
        due(call, want);
        check(name + ": what is seen after " + call, seen(), before);
        return this;
    }

    /** What the calls that change nothing tell, and whether rows go first. */
    String seen() {
        StringBuilder all = new StringBuilder();
        for (int what = 0; what < 7; what++) {
            all.append(rows.of(what)).append(' ');
        }
        all.append(rows.now(0)).append(' ').append(rows.now(1)).append(' ');
        boolean first = rows.first(true);
        rows.first(first);
        all.append(first).append(" timers");
        for (int timer = 0; timer < rows.of(2); timer++) {
            all.append(' ').append(answer("told " + timer + " 2"));
        }
        all.append(" done");
        for (int i = 0; i < rows.of(6); i++) {
            all.append(' ').append(rows.done(i, 0)).append(':').append(rows.done(i, 1));
        }
        all.append(" loads");
        for (int task = 0; task < 128; task++) {
            all.append(' ').append(rows.load(task, 128));
        }
        return all.toString();
    }

    String answer(String call) {
        String[] words = call.split(" ");
        Method method = methodOf(words[0]);
        Class<?>[] types = method.getParameterTypes();
        Object[] arguments = new Object[types.length];
        for (int i = 0; i < types.length; i++) {
            arguments[i] = parsed(types[i], words[i + 1]);
        }
        try {
            return String.valueOf(method.invoke(rows, arguments));
        } catch (InvocationTargetException e) {
            return "throws." + e.getCause().getClass().getSimpleName();
        } catch (IllegalAccessException e) {
            throw new AssertionError(e);
        }
    }

    private static Method methodOf(String word) {
        for (Method method : TimerRows.class.getDeclaredMethods()) {
            if (method.getName().equals(word)) {
                return method;
            }
        }
        throw new AssertionError("no method " + word);
    }

    private static Object parsed(Class<?> type, String word) {
        if (type == boolean.class) {
            return Boolean.valueOf(word);
        }
        if (type == int.class) {
            return Integer.valueOf(word);
        }
        return Long.valueOf(word);
    }
}
