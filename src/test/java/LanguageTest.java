import java.io.IOException;
import java.lang.reflect.Executable;
import java.lang.reflect.Field;
import java.lang.reflect.Method;
import java.lang.reflect.Modifier;
import java.nio.file.Files;
import java.nio.file.Path;
import java.util.ArrayList;
import java.util.List;
import java.util.Set;
import java.util.TreeSet;
import java.util.regex.Matcher;
import java.util.regex.Pattern;

/** Those rules of LANGUAGE.md that can be seen in the text of the class and in its parts. */
public final class LanguageTest {
    private static final Path TEXT = Path.of("src/main/java/FloatCircuits.java");
    private static final Set<Class<?>> TYPES =
        Set.of(int.class, long.class, short.class, byte.class, char.class, boolean.class, String.class);
    private static final Pattern COMMENT = Pattern.compile("/\\*.*?\\*/|//[^\\n]*", Pattern.DOTALL);
    private static final Pattern LEFT_OUT = Pattern.compile("\\b(package|import|try|catch|finally|synchronized|assert"
        + "|instanceof|double|float|native|volatile|transient|System|Thread|Math|Object)\\b|->|::|@|\\bstatic\\s*\\{");
    private static final Pattern THROWN = Pattern.compile("\\bthrow\\b(?! new IllegalArgumentException\\(\\);)");
    private static final Pattern METHOD = Pattern.compile("( {4}| {8})[^ }].*\\) (throws \\w+ )?\\{");

    private static final int MOST_CLASSES = 12;
    private static final int MOST_FIELDS = 20;
    private static final int MOST_PARAMETERS = 7;
    private static final int MOST_LINES = 60;

    public static void main(String[] args) throws IOException {
        Check check = new Check();
        List<Class<?>> classes = new ArrayList<>(List.of(FloatCircuits.class.getDeclaredClasses()));
        classesInside(check, classes);
        classes.add(FloatCircuits.class);
        names(check, classes);
        fields(check, classes);
        parameters(check, classes);
        words(check, COMMENT.matcher(Files.readString(TEXT)).replaceAll(""));
        lengths(check, Files.readAllLines(TEXT));
        check.end();
    }

    private static void classesInside(Check check, List<Class<?>> classes) {
        check.sentence("rules 1, 2, 11: classes inside are static, private or package-visible, at most some twelve");
        check.due(true, classes.size() < MOST_CLASSES, "classes: " + classes.size());
        for (Class<?> inside : classes) {
            int modifiers = inside.getModifiers();
            boolean hidden = !Modifier.isPublic(modifiers) && !Modifier.isProtected(modifiers);
            check.due(true, hidden && Modifier.isStatic(modifiers), inside.getName());
            check.due(0, inside.getDeclaredClasses().length, "classes inside " + inside.getName());
        }
    }

    private static void names(Check check, List<Class<?>> classes) {
        check.sentence("rule 1: no private method bears the name of a public one");
        Set<String> face = new TreeSet<>();
        for (Method method : FloatCircuits.class.getMethods()) {
            face.add(method.getName());
        }
        for (Class<?> each : classes) {
            for (Method method : each.getDeclaredMethods()) {
                boolean ofTheFace = Modifier.isPublic(method.getModifiers());
                check.due(ofTheFace, face.contains(method.getName()), each.getName() + "." + method.getName());
            }
        }
    }

    private static void fields(Check check, List<Class<?>> classes) {
        check.sentence("rules 3, 5, 11: static fields are final constants; a class has at most some twenty others");
        for (Class<?> each : classes) {
            int own = 0;
            for (Field field : each.getDeclaredFields()) {
                boolean constant = Modifier.isStatic(field.getModifiers());
                own += constant ? 0 : 1;
                boolean plain = TYPES.contains(field.getType());
                boolean fine = constant ? plain && Modifier.isFinal(field.getModifiers())
                    : plain || classes.contains(field.getType());
                check.due(true, fine, each.getName() + "." + field.getName());
            }
            check.due(true, own <= MOST_FIELDS, "fields of " + each.getName());
        }
    }

    private static void parameters(Check check, List<Class<?>> classes) {
        check.sentence("rule 11: a method takes at most seven parameters");
        for (Class<?> each : classes) {
            List<Executable> all = new ArrayList<>(List.of(each.getDeclaredMethods()));
            all.addAll(List.of(each.getDeclaredConstructors()));
            for (Executable one : all) {
                check.due(true, one.getParameterCount() <= MOST_PARAMETERS, one.toString());
            }
        }
    }

    private static void words(Check check, String text) {
        check.sentence("rules 2, 4, 6, 13: no library, no lambda, nothing caught, one exception alone");
        Matcher leftOut = LEFT_OUT.matcher(text);
        check.due(false, leftOut.find(), "a word that the class does without");
        check.due(false, THROWN.matcher(text).find(), "a throw of something else");
        check.due(true, text.contains("throw new IllegalArgumentException();"), "the one throw");
    }

    private static void lengths(Check check, List<String> lines) {
        check.sentence("rule 11: methods stay short (some sixty lines)");
        for (int i = 0; i < lines.size(); i++) {
            Matcher begun = METHOD.matcher(lines.get(i));
            if (begun.matches()) {
                int end = lines.subList(i, lines.size()).indexOf(begun.group(1) + "}");
                check.due(true, end > 0 && end < MOST_LINES, lines.get(i).strip() + " has lines: " + end);
            }
        }
    }
}
