import java.lang.reflect.Constructor;
import java.lang.reflect.Field;
import java.lang.reflect.Method;
import java.lang.reflect.Modifier;
import java.util.Arrays;
import java.util.Map;
import java.util.Set;
import java.util.TreeSet;

/** The public face is the document's, and there is nothing else to be seen from outside. */
public final class FaceTest {
    /** Behind each method: what its head says that it throws, in short. */
    private static final String[] FACE = {
        "int body(float, float, float, float) Argument, State",
        "void lean(int, float, float, float) Index, Argument",
        "void set(int, float, float, float, float, float, float) Index, Argument",
        "int gain(int, int, float, float, float) Index, Argument",
        "boolean wake(int) Index",
        "void vector(int, float, float, float) Index, Argument",
        "int row(int, int, float, float, float, float, int) Index, Argument, State",
        "int rub(int, int, float, int, float, int) Index, Argument, State",
        "int clear()",
        "void settings(int, float, float, int) Argument",
        "int workers(int) Argument",
        "int step(int) Argument",
        "float of(int, int) Index",
        "int about(int, int) Index",
        "float ofRow(int, int) Index",
        "int count(int) Index",
        "float motion()"
    };

    private static final Map<Class<?>, String> SHORT = Map.of(
            IndexOutOfBoundsException.class, "Index",
            IllegalArgumentException.class, "Argument",
            IllegalStateException.class, "State");

    public static void main(String[] args) {
        Class<?> type = IslandSolver.class;
        Check.that("the class is public and final",
                Modifier.isPublic(type.getModifiers()) && Modifier.isFinal(type.getModifiers()));
        Check.same("methods", methods(type).toString(), new TreeSet<>(Arrays.asList(FACE)).toString());
        for (Constructor<?> made : type.getDeclaredConstructors()) {
            Check.that("constructor " + made,
                    Modifier.isPublic(made.getModifiers()) && made.getParameterCount() == 0);
        }
        fields(type);
        noneIsOpen(type);
        innerClasses(type);
        Check.end();
    }

    private static Set<String> methods(Class<?> type) {
        Set<String> face = new TreeSet<>();
        Set<String> open = new TreeSet<>();
        for (Method method : type.getDeclaredMethods()) {
            if (!Modifier.isPrivate(method.getModifiers())) {
                Check.that("public and no static: " + method, method.getModifiers() == Modifier.PUBLIC);
                open.add(method.getName());
                String takes = Arrays.toString(method.getParameterTypes());
                face.add(method.getReturnType() + " " + method.getName()
                        + "(" + takes.substring(1, takes.length() - 1) + ")" + thrown(method));
            }
        }
        for (Method method : type.getDeclaredMethods()) {
            Check.that("a private method has a name of its own: " + method,
                    !Modifier.isPrivate(method.getModifiers()) || !open.contains(method.getName()));
        }
        return face;
    }

    private static String thrown(Method method) {
        StringBuilder text = new StringBuilder();
        for (Class<?> type : method.getExceptionTypes()) {
            text.append(text.length() == 0 ? " " : ", ").append(SHORT.getOrDefault(type, type.getName()));
        }
        return text.toString();
    }

    private static void fields(Class<?> type) {
        for (Field field : type.getDeclaredFields()) {
            int how = field.getModifiers();
            Check.that("private, or NONE: " + field, Modifier.isPrivate(how) || field.getName().equals("NONE"));
            Check.that("no static state: " + field, !Modifier.isStatic(how)
                    || (Modifier.isFinal(how) && field.getType() == int.class));
        }
    }

    private static void noneIsOpen(Class<?> type) {
        int open = 0;
        for (Field field : type.getFields()) {
            open++;
            Check.same("the constant", Modifier.toString(field.getModifiers()) + " " + field.getType() + " "
                    + field.getName(), "public static final int NONE");
        }
        Check.same("constants", open, 1);
        Check.same("NONE", IslandSolver.NONE, -1);
    }

    private static void innerClasses(Class<?> type) {
        for (Class<?> inner : type.getDeclaredClasses()) {
            Check.that("private and static: " + inner,
                    Modifier.isPrivate(inner.getModifiers()) && Modifier.isStatic(inner.getModifiers()));
            Check.that("some twenty fields: " + inner, inner.getDeclaredFields().length <= 20);
        }
    }
}
