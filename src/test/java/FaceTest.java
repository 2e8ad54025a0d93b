import java.lang.reflect.Constructor;
import java.lang.reflect.Field;
import java.lang.reflect.Method;
import java.lang.reflect.Modifier;
import java.util.Arrays;
import java.util.Set;
import java.util.TreeSet;
import java.util.stream.Collectors;

/** The public face of the class is the document's, and nothing else of it can be seen from outside. */
public final class FaceTest {
    private static final Set<String> FACE = Set.of(
            "long NONE",
            "TimerRows()",
            "int clear()",
            "int set(int,long,long,long,int) IllegalArgumentException IllegalStateException",
            "long move(int,long) IllegalArgumentException NoSuchElementException",
            "boolean cancel(int)",
            "int row(long,long) IllegalArgumentException IllegalStateException",
            "boolean first(boolean)",
            "int pass(int,long) IllegalArgumentException",
            "long done(int,int) IllegalArgumentException NoSuchElementException",
            "long told(int,int) IllegalArgumentException NoSuchElementException",
            "int next(int) IllegalArgumentException",
            "int waiting(int,long,long,long) IllegalArgumentException",
            "int keep() IllegalStateException",
            "int back(int) IllegalArgumentException",
            "int forget() IllegalStateException",
            "int task(long,int) IllegalArgumentException",
            "int load(int,int) IllegalArgumentException",
            "int of(int) IllegalArgumentException",
            "long now(int) IllegalArgumentException");

    public static void main(String[] args) {
        Set<String> seen = new TreeSet<>();
        for (Field field : TimerRows.class.getDeclaredFields()) {
            if (!Modifier.isPrivate(field.getModifiers())) {
                seen.add(field.getType().getSimpleName() + " " + field.getName());
            }
        }
        for (Constructor<?> made : TimerRows.class.getDeclaredConstructors()) {
            if (!Modifier.isPrivate(made.getModifiers())) {
                seen.add("TimerRows" + told(made.getParameterTypes(), made.getExceptionTypes()));
            }
        }
        for (Method method : TimerRows.class.getDeclaredMethods()) {
            if (!Modifier.isPrivate(method.getModifiers())) {
                seen.add(method.getReturnType().getSimpleName() + " " + method.getName()
                        + told(method.getParameterTypes(), method.getExceptionTypes()));
            }
        }
        Run.check("the face", seen, new TreeSet<>(FACE));
        Run.check("the class", Modifier.toString(TimerRows.class.getModifiers()), "public final");
        Run.end();
    }

    private static String told(Class<?>[] parameters, Class<?>[] exceptions) {
        String inside = Arrays.stream(parameters).map(Class::getSimpleName).collect(Collectors.joining(","));
        String behind = Arrays.stream(exceptions).map(c -> " " + c.getSimpleName()).collect(Collectors.joining());
        return "(" + inside + ")" + behind;
    }
}
