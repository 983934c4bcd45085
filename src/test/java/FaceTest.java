import java.lang.reflect.Constructor;
import java.lang.reflect.Field;
import java.lang.reflect.Method;
import java.lang.reflect.Modifier;
import java.util.Arrays;
import java.util.List;

/** The public face: what the document has, and nothing more that can be seen from outside. */
final class FaceTest {
    private static final Check CHECK = new Check("FaceTest");
    private static final List<String> METHODS = List.of(
        "int connect(int)", "void close()", "int client()", "int server()", "int put(int)",
        "int ask(int, int, int, int, int) throws IllegalArgumentException", "int status(int)",
        "int data(int, int) throws IndexOutOfBoundsException", "int credit(int) throws IndexOutOfBoundsException",
        "int way(int) throws IndexOutOfBoundsException", "int octet(int, int) throws IndexOutOfBoundsException",
        "void alter(int, int, int) throws IndexOutOfBoundsException",
        "int move(int, int) throws IndexOutOfBoundsException", "boolean cut(int, int)", "int start()", "int changes()");

    public static void main(String[] args) throws ReflectiveOperationException {
        CHECK.about("the face");
        methods();
        members();
        constants();
        CHECK.end();
    }

    private static void methods() {
        int seen = 0;
        for (Method method : GuardedTree.class.getDeclaredMethods()) {
            if (Modifier.isPublic(method.getModifiers())) {
                seen++;
                CHECK.due(described(method), METHODS.contains(described(method)), true);
            } else {
                CHECK.due(method.getName() + " is private", Modifier.isPrivate(method.getModifiers()), true);
                boolean named = METHODS.stream().anyMatch(one -> one.contains(" " + method.getName() + "("));
                CHECK.due(method.getName() + " bears a public name", named, false);
            }
        }
        CHECK.due("public methods", seen, METHODS.size());
    }

    private static String described(Method method) {
        String parameters = Arrays.toString(method.getParameterTypes()).replace("[", "(").replace("]", ")");
        StringBuilder text = new StringBuilder(method.getReturnType() + " " + method.getName() + parameters);
        for (Class<?> thrown : method.getExceptionTypes()) {
            text.append(" throws ").append(thrown.getSimpleName());
        }
        return text.toString();
    }

    private static void members() {
        CHECK.due("public and final", GuardedTree.class.getModifiers(), Modifier.PUBLIC | Modifier.FINAL);
        Constructor<?>[] constructors = GuardedTree.class.getDeclaredConstructors();
        CHECK.due("constructors", constructors.length, 1);
        CHECK.due("its parameters", constructors[0].getParameterCount(), 0);
        CHECK.due("it is public", constructors[0].getModifiers(), Modifier.PUBLIC);
        for (Class<?> inside : GuardedTree.class.getDeclaredClasses()) {
            int modifiers = inside.getModifiers();
            CHECK.due(inside + " is static", Modifier.isStatic(modifiers), true);
            CHECK.due(inside + " is hidden", (modifiers & (Modifier.PUBLIC | Modifier.PROTECTED)) == 0, true);
        }
    }

    private static void constants() throws ReflectiveOperationException {
        String[] names = {"NONE", "NO_NODE", "NOT_DIR", "IS_DIR", "EXISTS", "NO_ROOM", "WRONG", "NOT_EMPTY",
            "NO_POWER", "PENDING", "LOST", "UNKNOWN"};
        int[] values = {-1, -1, -2, -3, -4, -5, -6, -7, -30, -100, -101, -102};
        for (int i = 0; i < names.length; i++) {
            Field field = GuardedTree.class.getDeclaredField(names[i]);
            CHECK.due(names[i], field.getInt(null), values[i]);
        }
        int seen = 0;
        for (Field field : GuardedTree.class.getDeclaredFields()) {
            int modifiers = field.getModifiers();
            if (Modifier.isPublic(modifiers)) {
                seen++;
                CHECK.due(field + " is final", Modifier.isFinal(modifiers) && Modifier.isStatic(modifiers), true);
            } else {
                CHECK.due(field + " is private", Modifier.isPrivate(modifiers), true);
            }
        }
        CHECK.due("public constants", seen, names.length);
    }
}
