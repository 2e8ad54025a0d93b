import java.lang.reflect.Constructor;
import java.lang.reflect.Field;
import java.lang.reflect.Member;
import java.lang.reflect.Method;
import java.lang.reflect.Modifier;
import java.util.Arrays;
import java.util.Set;
import java.util.TreeSet;
import java.util.stream.Collectors;

/** The public face of the class is the document's, and nothing else of it can be seen from outside. */
public final class FaceTest {
    private static final Set<String> FACE = Set.of(
            "public static final long NONE",
            "public TimerRows()",
            "public int clear()",
            "public int set(int,long,long,long,int) IllegalArgumentException IllegalStateException",
            "public long move(int,long) IllegalArgumentException NoSuchElementException",
            "public boolean cancel(int)",
            "public int row(long,long) IllegalArgumentException IllegalStateException",
            "public boolean first(boolean)",
            "public int pass(int,long) IllegalArgumentException",
            "public long done(int,int) IllegalArgumentException NoSuchElementException",
            "public long told(int,int) IllegalArgumentException NoSuchElementException",
            "public int next(int) IllegalArgumentException",
            "public int waiting(int,long,long,long) IllegalArgumentException",
            "public int keep() IllegalStateException",
            "public int back(int) IllegalArgumentException",
            "public int forget() IllegalStateException",
            "public int task(long,int) IllegalArgumentException",
            "public int load(int,int) IllegalArgumentException",
            "public int of(int) IllegalArgumentException",
            "public long now(int) IllegalArgumentException");

    public static void main(String[] args) {
        Run.check("the class", Modifier.toString(TimerRows.class.getModifiers()), "public final");
        Run.check("the face", seenFromOutside(), new TreeSet<>(FACE));
        Run.check("private methods that bear a public one's name", privateWithPublicName(), new TreeSet<>());
        for (Class<?> inside : TimerRows.class.getDeclaredClasses()) {
            int modifiers = inside.getModifiers();
            Run.check(inside.getName() + " is static", Modifier.isStatic(modifiers), true);
            Run.check(inside.getName() + " is seen", Modifier.isPublic(modifiers) || Modifier.isProtected(modifiers),
                    false);
        }
        Run.end();
    }

    private static Set<String> seenFromOutside() {
        Set<String> seen = new TreeSet<>();
        for (Field field : TimerRows.class.getDeclaredFields()) {
            if (!Modifier.isPrivate(field.getModifiers())) {
                seen.add(kind(field) + field.getType().getSimpleName() + " " + field.getName());
            }
        }
        for (Constructor<?> made : TimerRows.class.getDeclaredConstructors()) {
            if (!Modifier.isPrivate(made.getModifiers())) {
                seen.add(kind(made) + "TimerRows" + told(made.getParameterTypes(), made.getExceptionTypes()));
            }
        }
        for (Method method : TimerRows.class.getDeclaredMethods()) {
            if (!Modifier.isPrivate(method.getModifiers())) {
                seen.add(kind(method) + method.getReturnType().getSimpleName() + " " + method.getName()
                        + told(method.getParameterTypes(), method.getExceptionTypes()));
            }
        }
        return seen;
    }

    private static Set<String> privateWithPublicName() {
        Set<String> publicNames = new TreeSet<>();
        Set<String> privateNames = new TreeSet<>();
        for (Method method : TimerRows.class.getDeclaredMethods()) {
            (Modifier.isPublic(method.getModifiers()) ? publicNames : privateNames).add(method.getName());
        }
        privateNames.retainAll(publicNames);
        return privateNames;
    }

    private static String kind(Member member) {
        return Modifier.toString(member.getModifiers()) + " ";
    }

    private static String told(Class<?>[] parameters, Class<?>[] exceptions) {
        String inside = Arrays.stream(parameters).map(Class::getSimpleName).collect(Collectors.joining(","));
        String behind = Arrays.stream(exceptions).map(c -> " " + c.getSimpleName()).collect(Collectors.joining());
        return "(" + inside + ")" + behind;
    }
}
