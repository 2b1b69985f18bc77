import java.lang.reflect.Constructor;
import java.lang.reflect.Field;
import java.lang.reflect.Method;
import java.lang.reflect.Modifier;
import java.util.Set;
import java.util.TreeSet;

/** The public face: its constants, constructor and methods, and no other member that is not private. */
final class FaceTest {
    private static final String BOUNDS = " IndexOutOfBoundsException";
    private static final String ARGUMENT = " IllegalArgumentException";
    private static final String STATE = " IllegalStateException";
    private static final String[] METHODS = {
        "int addCell()" + STATE, "int write(int int int int int int)" + BOUNDS + ARGUMENT + STATE,
        "int clear(int int)" + BOUNDS + STATE, "int move(int int)" + BOUNDS, "int cellCount()",
        "int cellAt(int)" + BOUNDS, "int source(int)" + BOUNDS, "char sourceChar(int int)" + BOUNDS,
        "int grant(int int int)" + BOUNDS + ARGUMENT, "int right(int int)" + BOUNDS,
        "boolean run(int int)" + BOUNDS + STATE, "int refresh(int)" + BOUNDS + STATE, "boolean isSet(int)" + BOUNDS,
        "int value(int)" + BOUNDS + STATE, "int stamp(int)" + BOUNDS, "int lastRun(int)" + BOUNDS,
        "boolean hasResult(int)" + BOUNDS, "int result(int int)" + BOUNDS + STATE, "int seen(int)" + BOUNDS,
        "int timesSeen(int)" + BOUNDS, "int why(int)" + BOUNDS, "int stale()", "int wouldBeStale(int)" + BOUNDS,
        "int keep()" + STATE, "int restore(int)" + BOUNDS, "int end()", "boolean isSetInOrder(int)" + BOUNDS,
        "int valueInOrder(int)" + BOUNDS + STATE, "int unlikeInOrder()", "int runs()", "int logged()",
        "int logAt(int)" + BOUNDS, "int forget(int)" + BOUNDS
    };
    private static final String[] CONSTANTS = {
        "PLUS 0", "MINUS 1", "TIMES 2", "OVER 3", "NOTHING 0", "SEE 1", "RUN 2", "EDIT 3",
        "EDITED 1", "CHANGED 2", "RESTING 4"
    };

    private FaceTest() {
    }

    public static void main(String[] args) throws IllegalAccessException {
        Checks.same("the class is public and final",
                CellNotebook.class.getModifiers() & (Modifier.PUBLIC | Modifier.FINAL),
                Modifier.PUBLIC | Modifier.FINAL);
        methodsAreThoseOfTheDocument();
        constantsAreThoseOfTheDocument();
        oneConstructorWithoutParameters();
        classesInsideAreStaticAndNotOpen();
        Checks.end();
    }

    private static void methodsAreThoseOfTheDocument() {
        Set<String> face = new TreeSet<>();
        Set<String> hidden = new TreeSet<>();
        Set<String> names = new TreeSet<>();
        for (Method method : CellNotebook.class.getDeclaredMethods()) {
            if (Modifier.isPrivate(method.getModifiers())) {
                hidden.add(method.getName());
            } else if (!method.isSynthetic()) {
                Checks.same(method.getName() + " is public and no more", method.getModifiers(), Modifier.PUBLIC);
                face.add(described(method));
                names.add(method.getName());
            }
        }
        Checks.same("methods", face.toString(), new TreeSet<>(Set.of(METHODS)).toString());
        hidden.retainAll(names);
        Checks.same("private methods with a public one's name", hidden.size(), 0);
    }

    private static String described(Method method) {
        StringBuilder text = new StringBuilder();
        text.append(method.getReturnType().getName()).append(' ').append(method.getName()).append('(');
        for (Class<?> parameter : method.getParameterTypes()) {
            text.append(text.charAt(text.length() - 1) == '(' ? "" : " ").append(parameter.getName());
        }
        text.append(')');
        for (Class<?> thrown : method.getExceptionTypes()) {
            text.append(' ').append(thrown.getSimpleName());
        }
        return text.toString();
    }

    private static void constantsAreThoseOfTheDocument() throws IllegalAccessException {
        Set<String> face = new TreeSet<>();
        for (Field field : CellNotebook.class.getDeclaredFields()) {
            if (!Modifier.isPrivate(field.getModifiers())) {
                Checks.same("modifiers of " + field.getName(), field.getModifiers(),
                        Modifier.PUBLIC | Modifier.STATIC | Modifier.FINAL);
                face.add(field.getName() + " " + field.getInt(null));
            }
        }
        Checks.same("constants", face.toString(), new TreeSet<>(Set.of(CONSTANTS)).toString());
    }

    private static void oneConstructorWithoutParameters() {
        Constructor<?>[] all = CellNotebook.class.getDeclaredConstructors();
        Checks.same("constructors", all.length, 1);
        Checks.same("its parameters", all[0].getParameterCount(), 0);
        Checks.same("it is public", Modifier.isPublic(all[0].getModifiers()), true);
    }

    private static void classesInsideAreStaticAndNotOpen() {
        Class<?>[] inside = CellNotebook.class.getDeclaredClasses();
        Checks.same("some twelve classes at most", inside.length <= 12, true);
        for (Class<?> one : inside) {
            int open = one.getModifiers() & (Modifier.PUBLIC | Modifier.PROTECTED);
            Checks.same(one.getName() + " is open", open != 0, false);
            Checks.same(one.getName() + " is static", Modifier.isStatic(one.getModifiers()), true);
        }
    }
}
