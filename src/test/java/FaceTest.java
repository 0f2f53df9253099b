import java.lang.reflect.Constructor;
import java.lang.reflect.Field;
import java.lang.reflect.Method;
import java.lang.reflect.Modifier;
import java.util.Arrays;
import java.util.Set;
import java.util.TreeSet;

/** The public face is the document's, and there is nothing else to be seen from outside. */
public final class FaceTest {
    private static final String[] FACE = {
        "int body(float, float, float, float)",
        "void lean(int, float, float, float)",
        "void set(int, float, float, float, float, float, float)",
        "int gain(int, int, float, float, float)",
        "boolean wake(int)",
        "void vector(int, float, float, float)",
        "int row(int, int, float, float, float, float, int)",
        "int rub(int, int, float, int, float, int)",
        "int clear()",
        "void settings(int, float, float, int)",
        "int workers(int)",
        "int step(int)",
        "float of(int, int)",
        "int about(int, int)",
        "float ofRow(int, int)",
        "int count(int)",
        "float motion()"
    };

    public static void main(String[] args) {
        Class<?> type = IslandSolver.class;
        Check.that("the class is public and final",
                Modifier.isPublic(type.getModifiers()) && Modifier.isFinal(type.getModifiers()));
        Check.same("methods", methods(type).toString(), new TreeSet<>(Arrays.asList(FACE)).toString());
        for (Constructor<?> made : type.getDeclaredConstructors()) {
            Check.that("constructor " + made,
                    Modifier.isPublic(made.getModifiers()) && made.getParameterCount() == 0);
        }
        fields(type);
        innerClasses(type);
        Check.end();
    }

    private static Set<String> methods(Class<?> type) {
        Set<String> face = new TreeSet<>();
        Set<String> open = new TreeSet<>();
        for (Method method : type.getDeclaredMethods()) {
            if (!Modifier.isPrivate(method.getModifiers())) {
                Check.that("public and no static: " + method, method.getModifiers() == Modifier.PUBLIC);
                open.add(method.getName());
                String takes = Arrays.toString(method.getParameterTypes());
                face.add(method.getReturnType() + " " + method.getName()
                        + "(" + takes.substring(1, takes.length() - 1) + ")");
            }
        }
        for (Method method : type.getDeclaredMethods()) {
            Check.that("a private method has a name of its own: " + method,
                    !Modifier.isPrivate(method.getModifiers()) || !open.contains(method.getName()));
        }
        return face;
    }

    private static void fields(Class<?> type) {
        for (Field field : type.getDeclaredFields()) {
            int how = field.getModifiers();
            Check.that("private, or NONE: " + field, Modifier.isPrivate(how) || field.getName().equals("NONE"));
            Check.that("no static state: " + field, !Modifier.isStatic(how)
                    || (Modifier.isFinal(how) && field.getType() == int.class));
        }
    }

    private static void innerClasses(Class<?> type) {
        for (Class<?> inner : type.getDeclaredClasses()) {
            Check.that("private and static: " + inner,
                    Modifier.isPrivate(inner.getModifiers()) && Modifier.isStatic(inner.getModifiers()));
            Check.that("some twenty fields: " + inner, inner.getDeclaredFields().length <= 20);
        }
    }
}
