import java.lang.reflect.Constructor;
import java.lang.reflect.Field;
import java.lang.reflect.Method;
import java.lang.reflect.Modifier;
import java.util.Arrays;
import java.util.Set;
import java.util.TreeSet;

/** The public face: just the document's members, and no private method with a public one's name. */
public final class FaceTest {
    private static final Set<String> PUBLIC_NAMES = Set.of("write", "erase", "put", "shape", "set", "shapeOf", "size",
            "at", "run", "look", "made", "runs");

    public static void main(String[] args) {
        Check check = new Check();
        check.due("modifiers", Modifier.toString(ArrayText.class.getModifiers()), "public final");
        check.due("methods", methods().toString(), new TreeSet<>(Arrays.asList(
                "int write(long)", "int erase()", "boolean put(int, double)", "boolean shape(int, int)",
                "boolean set(int, int, double)", "int shapeOf(int)", "int size(int)", "double at(int, int)",
                "int run(int) IndexOutOfBoundsException IllegalArgumentException IllegalStateException"
                        + " UnsupportedOperationException ArithmeticException",
                "int look() IllegalArgumentException IllegalStateException UnsupportedOperationException",
                "int made()", "int runs()")).toString());
        Constructor<?>[] constructors = ArrayText.class.getDeclaredConstructors();
        check.due("constructors", Arrays.toString(constructors), "[public ArrayText()]");
        for (Field field : ArrayText.class.getDeclaredFields()) {
            check.due(field.getName() + " is private", Modifier.isPrivate(field.getModifiers()), true);
        }
        for (Class<?> inside : ArrayText.class.getDeclaredClasses()) {
            check.due(inside.getName() + " is private", Modifier.isPrivate(inside.getModifiers()), true);
            check.due(inside.getName() + " is static", Modifier.isStatic(inside.getModifiers()), true);
            noPublicNames(check, inside);
        }
        noPublicNames(check, ArrayText.class);
        check.end();
    }

    private static void noPublicNames(Check check, Class<?> owner) {
        for (Method method : owner.getDeclaredMethods()) {
            if (!Modifier.isPublic(method.getModifiers())) {
                check.due(owner.getName() + "." + method.getName() + " bears a public name",
                        PUBLIC_NAMES.contains(method.getName()), false);
            }
        }
    }

    private static Set<String> methods() {
        Set<String> told = new TreeSet<>();
        for (Method method : ArrayText.class.getDeclaredMethods()) {
            if (!Modifier.isPrivate(method.getModifiers())) {
                told.add(tell(method));
            }
        }
        return told;
    }

    private static String tell(Method method) {
        StringBuilder told = new StringBuilder(method.getReturnType() + " " + method.getName() + "(");
        for (Class<?> type : method.getParameterTypes()) {
            told.append(told.charAt(told.length() - 1) == '(' ? "" : ", ").append(type);
        }
        told.append(')');
        for (Class<?> thrown : method.getExceptionTypes()) {
            told.append(' ').append(thrown.getSimpleName());
        }
        return told.toString();
    }
}
