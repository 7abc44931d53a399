import java.lang.reflect.Constructor;
import java.lang.reflect.Field;
import java.lang.reflect.Method;
import java.lang.reflect.Modifier;
import java.util.Set;
import java.util.TreeSet;

/** The public face: what the document names, and no other public, protected or package-visible member. */
public final class FaceTest {
    private static final String[] METHODS = {
        "int advise(int) throws IllegalArgumentException",
        "int breaks(int, int) throws IndexOutOfBoundsException",
        "int cell(int, int, int) throws IndexOutOfBoundsException",
        "int count(int) throws IndexOutOfBoundsException",
        "int dam(int, int, int) throws IndexOutOfBoundsException, IllegalArgumentException",
        "int drain(int, int, int) throws IndexOutOfBoundsException, IllegalArgumentException",
        "int floods(int, int) throws IndexOutOfBoundsException",
        "int foresee(int, int) throws IllegalArgumentException, IndexOutOfBoundsException",
        "int holds(int) throws IllegalArgumentException",
        "int lake(int, int) throws IndexOutOfBoundsException",
        "int pass(int) throws IllegalArgumentException",
        "int pour(int, int, int) throws IndexOutOfBoundsException, IllegalArgumentException",
        "int raise(int, int, int) throws IndexOutOfBoundsException, IllegalArgumentException",
        "int setRain(int, int) throws IndexOutOfBoundsException, IllegalArgumentException",
        "int settle(int, int, int) throws IndexOutOfBoundsException, IllegalArgumentException",
        "double mean()",
        "long digest()"
    };
    private static final Set<String> NAMES = names();

    public static void main(String[] args) {
        Check.same("the class is public and final", Modifier.PUBLIC | Modifier.FINAL,
            FloodGrid.class.getModifiers());
        methods();
        constructors();
        fields(FloodGrid.class);
        for (Class<?> inside : FloodGrid.class.getDeclaredClasses()) {
            if (Modifier.isPublic(inside.getModifiers()) || Modifier.isProtected(inside.getModifiers())) {
                Check.fail("class inside that others see: " + inside.getName());
            }
            for (Method method : inside.getDeclaredMethods()) {
                if (NAMES.contains(method.getName())) {
                    Check.fail("method that bears the name of a public one: " + method);
                }
            }
        }
        Check.end();
    }

    private static Set<String> names() {
        Set<String> names = new TreeSet<>();
        for (String method : METHODS) {
            names.add(method.substring(method.indexOf(' ') + 1, method.indexOf('(')));
        }
        return names;
    }

    private static void methods() {
        Set<String> missing = new TreeSet<>(Set.of(METHODS));
        for (Method method : FloodGrid.class.getDeclaredMethods()) {
            if (method.getModifiers() == Modifier.PUBLIC && missing.remove(told(method))) {
                continue;
            }
            if (!Modifier.isPrivate(method.getModifiers()) || NAMES.contains(method.getName())) {
                Check.fail("method that is not in the face: " + method);
            }
        }
        for (String method : missing) {
            Check.fail("method that is missing: " + method);
        }
    }

    private static String told(Method method) {
        StringBuilder told = new StringBuilder();
        told.append(method.getReturnType().getName()).append(' ').append(method.getName()).append('(');
        for (Class<?> type : method.getParameterTypes()) {
            told.append(told.charAt(told.length() - 1) == '(' ? "" : ", ").append(type.getName());
        }
        told.append(')');
        for (Class<?> type : method.getExceptionTypes()) {
            told.append(told.charAt(told.length() - 1) == ')' ? " throws " : ", ").append(type.getSimpleName());
        }
        return told.toString();
    }

    private static void constructors() {
        Constructor<?>[] all = FloodGrid.class.getDeclaredConstructors();
        Check.same("constructors", 1, all.length);
        Check.same("public constructor", Modifier.PUBLIC, all[0].getModifiers());
        Check.same("parameters of the constructor", 0, all[0].getParameterCount());
    }

    private static void fields(Class<?> type) {
        for (Field field : type.getDeclaredFields()) {
            int kind = field.getModifiers();
            if (!Modifier.isPrivate(kind)) {
                Check.fail("field that others see: " + field);
            }
            if (Modifier.isStatic(kind) && !Modifier.isFinal(kind)) {
                Check.fail("static field that is not final: " + field);
            }
        }
    }
}
