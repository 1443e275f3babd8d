import java.lang.reflect.Constructor;
import java.lang.reflect.Field;
import java.lang.reflect.Method;
import java.lang.reflect.Modifier;
import java.util.Arrays;
import java.util.TreeSet;

/** The class has the document's face and nothing else that is not private. */
public final class FaceTest {
    private static final String[] METHODS = {
        "int type(long, int)", "int define(int)", "int place()", "int derive(int, int, int)", "int made()",
        "int parts(int)", "int part(int, int)", "boolean number(int, int)", "void clear()", "void set(int, int, int)",
        "void gradient(int)", "void along(int, int, int, int)", "boolean reckon(int, int, int, int)",
        "int compare(int, int)", "int sign(int)", "int bits(int, int)", "int word(int, int, int)", "int write(int)",
        "int written(int)"};

    public static void main(String[] args) throws IllegalAccessException {
        Check.due("public and final", GradientDesk.class.getModifiers(), Modifier.PUBLIC | Modifier.FINAL);
        TreeSet<String> methods = new TreeSet<>();
        for (Method method : GradientDesk.class.getDeclaredMethods()) {
            if (!Modifier.isPrivate(method.getModifiers())) {
                methods.add(said(method));
            }
        }
        Check.due("methods", methods.toString(), new TreeSet<>(Arrays.asList(METHODS)).toString());
        Constructor<?>[] constructors = GradientDesk.class.getDeclaredConstructors();
        Check.due("constructors", constructors.length, 1);
        Check.due("constructor", constructors[0].toString(), "public GradientDesk()");
        TreeSet<String> constants = new TreeSet<>();
        for (Field field : GradientDesk.class.getDeclaredFields()) {
            if (!Modifier.isPrivate(field.getModifiers())) {
                constants.add(Modifier.toString(field.getModifiers()) + " " + field.getName() + " " + field.getInt(null));
            }
        }
        Check.due("constants", constants.toString(), "[public static final FULL -4, public static final LARGE -3, "
                + "public static final SYNTAX -1, public static final UNKNOWN -2]");
        Check.end();
    }

    private static String said(Method method) {
        StringBuilder out = new StringBuilder(method.getReturnType() + " " + method.getName() + "(");
        for (Class<?> type : method.getParameterTypes()) {
            out.append(out.charAt(out.length() - 1) == '(' ? "" : ", ").append(type);
        }
        return out.append(")").toString();
    }
}
