import java.lang.reflect.Constructor;
import java.lang.reflect.Executable;
import java.lang.reflect.Field;
import java.lang.reflect.Method;
import java.lang.reflect.Modifier;
import java.util.Arrays;
import java.util.Set;
import java.util.TreeSet;

/** The class has the document's face, and nothing else can be seen of it. */
public final class FaceTest {
    private static final Set<String> FACE = Set.of(
        "FloatCircuits() []",
        "int format(int, int) [IllegalArgumentException]",
        "int reckon(int, int, int, int) [IllegalArgumentException]",
        "int change(int, int, int) [IllegalArgumentException]",
        "int least(int, int, boolean) [IllegalArgumentException]",
        "boolean compare(int, int, int) [IllegalArgumentException]",
        "boolean is(int, int) [IllegalArgumentException]",
        "int from(int, int, int, int) [IllegalArgumentException]",
        "int ofWhole(int, int, int, boolean) [IllegalArgumentException]",
        "int toWhole(int, int, int, boolean) [IllegalArgumentException]");

    public static void main(String[] args) {
        Check check = new Check();
        int modifiers = FloatCircuits.class.getModifiers();
        check.due(true, Modifier.isPublic(modifiers) && Modifier.isFinal(modifiers), "public and final");
        Set<String> seen = new TreeSet<>();
        for (Constructor<?> made : FloatCircuits.class.getDeclaredConstructors()) {
            see(check, seen, made, "FloatCircuits");
        }
        for (Method method : FloatCircuits.class.getDeclaredMethods()) {
            see(check, seen, method, method.getReturnType().getName() + " " + method.getName());
        }
        for (Field field : FloatCircuits.class.getDeclaredFields()) {
            check.due(true, Modifier.isPrivate(field.getModifiers()), "private: " + field.getName());
        }
        check.due(true, seen.equals(FACE), "the face is " + seen);
        check.end();
    }

    private static void see(Check check, Set<String> seen, Executable member, String name) {
        if (Modifier.isPrivate(member.getModifiers())) {
            return;
        }
        check.due(true, Modifier.isPublic(member.getModifiers()), "public: " + name);
        seen.add(name + "(" + names(member.getParameterTypes()) + ") [" + names(member.getExceptionTypes()) + "]");
    }

    private static String names(Class<?>[] types) {
        return String.join(", ", Arrays.stream(types).map(Class::getSimpleName).toList());
    }
}
