import java.lang.reflect.Constructor;
import java.lang.reflect.Field;
import java.lang.reflect.Method;
import java.lang.reflect.Modifier;
import java.util.Arrays;
import java.util.Set;
import java.util.TreeSet;

/** The document's public face, and rule 1 of the language: these members and no others. */
public final class FaceTest {
    private static final Check CHECK = new Check();
    private static final String[] METHODS = {
        "int monitor[int, int]", "int cycle[int, int]", "int count[int, int]",
        "long ratio[int, int] ArithmeticException", "int ready[int]", "int fault[int, boolean]",
        "int permanent[int]", "int clear[]", "int lamp[long, long]", "int freeze[int]",
        "int answer[int, int]", "byte at[int] IndexOutOfBoundsException", "int sum[]"};

    public static void main(String[] args) {
        int modifiers = EmissionRows.class.getModifiers();
        CHECK.due(1, Modifier.isPublic(modifiers) && Modifier.isFinal(modifiers) ? 1 : 0, "public and final");
        CHECK.due(1, EmissionRows.class.getDeclaredConstructors().length, "how many constructors");
        for (Constructor<?> constructor : EmissionRows.class.getDeclaredConstructors()) {
            CHECK.due(1, Modifier.isPublic(constructor.getModifiers()) ? 1 : 0, "the constructor is public");
            CHECK.due(0, constructor.getParameterCount(), "the constructor's parameters");
        }
        for (Field field : EmissionRows.class.getDeclaredFields()) {
            CHECK.due(1, Modifier.isPrivate(field.getModifiers()) ? 1 : 0, field.getName() + " is private");
        }
        methods();
        CHECK.end();
    }

    private static void methods() {
        Set<String> due = new TreeSet<>(Arrays.asList(METHODS));
        Set<String> face = new TreeSet<>();
        Set<String> publicNames = new TreeSet<>();
        for (Method method : EmissionRows.class.getDeclaredMethods()) {
            if (!Modifier.isPrivate(method.getModifiers())) {
                face.add(described(method));
                publicNames.add(method.getName());
            }
        }
        CHECK.due(1, face.equals(due) ? 1 : 0, "the face is " + face + "; that it is as due");
        for (Method method : EmissionRows.class.getDeclaredMethods()) {
            if (Modifier.isPrivate(method.getModifiers())) {
                CHECK.due(0, publicNames.contains(method.getName()) ? 1 : 0, method.getName() + " bears a public name");
            }
        }
    }

    private static String described(Method method) {
        StringBuilder text = new StringBuilder();
        text.append(method.getReturnType()).append(' ').append(method.getName());
        text.append(Arrays.toString(method.getParameterTypes()));
        for (Class<?> thrown : method.getExceptionTypes()) {
            text.append(' ').append(thrown.getSimpleName());
        }
        return text.toString();
    }
}
