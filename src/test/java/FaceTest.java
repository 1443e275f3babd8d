import java.lang.reflect.Constructor;
import java.lang.reflect.Field;
import java.lang.reflect.Method;
import java.lang.reflect.Modifier;
import java.util.Arrays;
import java.util.TreeSet;

/** The class has the document's face and nothing else that is not private. */
public final class FaceTest {
    private static final String ARGUMENT = " throws IllegalArgumentException";
    private static final String BOUNDS = " throws IndexOutOfBoundsException";
    private static final String STATE = ", IllegalStateException";
    private static final String ELEMENT = ", NoSuchElementException";
    private static final String BOUNDS_AND_ARGUMENT = BOUNDS + ", IllegalArgumentException";

    private static final String[] METHODS = {
        "int type(long, int)" + ARGUMENT + STATE, "int define(int)" + ARGUMENT, "int place()",
        "int derive(int, int, int)" + ARGUMENT + ELEMENT, "int made()", "int parts(int)" + ARGUMENT + ELEMENT,
        "int part(int, int)" + BOUNDS_AND_ARGUMENT, "boolean number(int, int)" + BOUNDS, "void clear()",
        "void set(int, int, int)" + ARGUMENT, "void gradient(int)" + ARGUMENT + ELEMENT,
        "void along(int, int, int, int)" + ARGUMENT + ELEMENT, "boolean reckon(int, int, int, int)" + BOUNDS_AND_ARGUMENT,
        "int compare(int, int)" + BOUNDS, "int sign(int)" + BOUNDS, "int bits(int, int)" + BOUNDS_AND_ARGUMENT,
        "int word(int, int, int)" + BOUNDS_AND_ARGUMENT, "int write(int)" + ARGUMENT + ELEMENT, "int written(int)" + BOUNDS};

    public static void main(String[] args) throws IllegalAccessException {
        Check.due("public and final", GradientDesk.class.getModifiers(), Modifier.PUBLIC | Modifier.FINAL);
        TreeSet<String> methods = new TreeSet<>();
        TreeSet<String> publicNames = new TreeSet<>();
        TreeSet<String> privateNames = new TreeSet<>();
        for (Method method : GradientDesk.class.getDeclaredMethods()) {
            if (!Modifier.isPrivate(method.getModifiers())) {
                methods.add(said(method));
            }
            (Modifier.isPrivate(method.getModifiers()) ? privateNames : publicNames).add(method.getName());
        }
        Check.due("methods", methods.toString(), new TreeSet<>(Arrays.asList(METHODS)).toString());
        privateNames.retainAll(publicNames);
        Check.due("private methods with the name of a public one", privateNames.toString(), "[]");
        Constructor<?>[] constructors = GradientDesk.class.getDeclaredConstructors();
        Check.due("constructors", constructors.length, 1);
        Check.due("constructor", constructors[0].toString(), "public GradientDesk()");
        TreeSet<String> constants = new TreeSet<>();
        for (Field field : GradientDesk.class.getDeclaredFields()) {
            if (!Modifier.isPrivate(field.getModifiers())) {
                constants.add(Modifier.toString(field.getModifiers()) + " " + field.getName() + " " + field.getInt(null));
            }
        }
        Check.due("constants", constants.toString(), "[public static final FULL -4, public static final LARGE -3, "
                + "public static final SYNTAX -1, public static final UNKNOWN -2]");
        Check.end();
    }

    private static String said(Method method) {
        StringBuilder out = new StringBuilder(method.getReturnType() + " " + method.getName() + "(");
        for (Class<?> type : method.getParameterTypes()) {
            out.append(out.charAt(out.length() - 1) == '(' ? "" : ", ").append(type);
        }
        out.append(")");
        String before = " throws ";
        for (Class<?> type : method.getExceptionTypes()) {
            out.append(before).append(type.getSimpleName());
            before = ", ";
        }
        return out.toString();
    }
}
