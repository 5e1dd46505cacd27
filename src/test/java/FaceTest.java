import java.lang.reflect.Constructor;
import java.lang.reflect.Field;
import java.lang.reflect.Method;
import java.lang.reflect.Modifier;
import java.util.TreeSet;

/** The class has the members of the document's face, with their exceptions, and shows no others. */
public final class FaceTest {

    private static final String A = "IllegalArgumentException";
    private static final String AN = A + " NoSuchElementException";
    private static final String ANI = AN + " IndexOutOfBoundsException";
    private static final String[] FACE = {
        "int make 3 " + A + " IllegalStateException", "void set 3 " + ANI, "void get 3 " + ANI,
        "void copy 2 " + A, "boolean clear 1 " + A, "int write 2 " + AN, "void watch 2 " + A,
        "void revive 2 " + A, "int watched 1 " + A, "int about 2 " + AN, "int field 2 " + ANI,
        "boolean same 2 " + A, "int reach 1 " + A, "int collect 2 " + A, "int figure 1 " + A};

    public static void main(String[] args) {
        Checks checks = new Checks();
        Class<?> yard = ForwardYard.class;
        checks.due("class", Modifier.toString(yard.getModifiers()), "public final");
        checks.due("methods", shownMethods(yard), new TreeSet<>(java.util.List.of(FACE)));
        for (Field field : yard.getDeclaredFields()) {
            checks.due(field + " is private", Modifier.isPrivate(field.getModifiers()), true);
        }
        checks.due("constructors", yard.getDeclaredConstructors().length, 1);
        for (Constructor<?> constructor : yard.getDeclaredConstructors()) {
            checks.due("constructor", constructor.toString(), "public ForwardYard()");
        }
        for (Class<?> inside : yard.getDeclaredClasses()) {
            checks.due(inside + " is static", Modifier.isStatic(inside.getModifiers()), true);
            checks.due(inside + " is public", Modifier.isPublic(inside.getModifiers()), false);
        }
        checks.finish();
    }

    private static TreeSet<String> shownMethods(Class<?> yard) {
        TreeSet<String> shown = new TreeSet<>();
        for (Method method : yard.getDeclaredMethods()) {
            if (!Modifier.isPrivate(method.getModifiers())) {
                shown.add(told(method));
            }
        }
        return shown;
    }

    private static String told(Method method) {
        StringBuilder told = new StringBuilder();
        told.append(method.getReturnType()).append(' ').append(method.getName()).append(' ');
        told.append(method.getParameterCount());
        for (Class<?> type : method.getParameterTypes()) {
            if (type != int.class) {
                told.append(" with ").append(type);
            }
        }
        for (Class<?> exception : method.getExceptionTypes()) {
            told.append(' ').append(exception.getSimpleName());
        }
        return told.toString();
    }
}
