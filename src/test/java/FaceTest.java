import java.lang.reflect.Constructor;
import java.lang.reflect.Field;
import java.lang.reflect.Method;
import java.lang.reflect.Modifier;
import java.util.Arrays;
import java.util.Set;
import java.util.TreeSet;

/** The public face: the document's members and no other. */
final class FaceTest {
    private static final String INDEX = " throws IndexOutOfBoundsException";
    private static final String ARGUMENT = " throws IllegalArgumentException";

    public static void main(String[] args) {
        Check check = new Check();
        Class<?> face = TwinCores.class;
        check.same("modifiers", face.getModifiers(), Modifier.PUBLIC | Modifier.FINAL);
        check.same("NONE", TwinCores.NONE, -1);
        check.holds("members are " + seen(face), seen(face).equals(due()));
        for (Class<?> inside : face.getDeclaredClasses()) {
            int open = Modifier.PUBLIC | Modifier.PROTECTED;
            check.holds(inside + " is not open", (inside.getModifiers() & open) == 0);
            check.holds(inside + " is static", Modifier.isStatic(inside.getModifiers()));
        }
        check.end();
    }

    private static Set<String> due() {
        return new TreeSet<>(Arrays.asList(
                "public static final int NONE",
                "public ()",
                "public void load(int,int,int,int,int,int,int,int)" + INDEX + ",IllegalArgumentException",
                "public int byteAt(int,int)" + INDEX,
                "public void reset(int)" + INDEX,
                "public int run(int,int)" + ARGUMENT,
                "public int register(int,int)" + INDEX,
                "public int port(int,int)" + INDEX,
                "public int waits(int,int)" + INDEX,
                "public long steps(int)" + INDEX,
                "public void clear()"));
    }

    private static Set<String> seen(Class<?> face) {
        Set<String> seen = new TreeSet<>();
        for (Field field : face.getDeclaredFields()) {
            if (!Modifier.isPrivate(field.getModifiers())) {
                seen.add(Modifier.toString(field.getModifiers()) + " " + field.getType() + " " + field.getName());
            }
        }
        for (Constructor<?> made : face.getDeclaredConstructors()) {
            if (!Modifier.isPrivate(made.getModifiers())) {
                seen.add(Modifier.toString(made.getModifiers()) + " " + names(made.getParameterTypes()));
            }
        }
        for (Method method : face.getDeclaredMethods()) {
            if (!Modifier.isPrivate(method.getModifiers())) {
                seen.add(Modifier.toString(method.getModifiers()) + " " + method.getReturnType() + " "
                        + method.getName() + names(method.getParameterTypes()) + thrown(method));
            }
        }
        return seen;
    }

    private static String names(Class<?>[] types) {
        return "(" + joined(types) + ")";
    }

    private static String thrown(Method method) {
        Class<?>[] types = method.getExceptionTypes();
        return types.length == 0 ? "" : " throws " + joined(types);
    }

    private static String joined(Class<?>[] types) {
        StringBuilder text = new StringBuilder();
        for (Class<?> type : types) {
            text.append(text.length() == 0 ? "" : ",").append(type.getSimpleName());
        }
        return text.toString();
    }
}
