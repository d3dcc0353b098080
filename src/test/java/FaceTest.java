import java.lang.reflect.Constructor;
import java.lang.reflect.Field;
import java.lang.reflect.Method;
import java.lang.reflect.Modifier;
import java.util.Arrays;
import java.util.TreeSet;

/** The public face is the document's, and nothing more can be seen of the class. */
public final class FaceTest {
    private static final String[] METHODS = {
        "int feed(int, int, int, int, int)",
        "int valley(int) throws IllegalArgumentException",
        "int fault()",
        "int count(int) throws NoSuchElementException",
        "int lamp(int, int) throws NoSuchElementException",
        "int far(int, int) throws NoSuchElementException",
        "int nights(int) throws IllegalArgumentException",
        "int undo(int) throws IllegalArgumentException",
        "int book(int, int, int) throws NoSuchElementException",
        "boolean drop(int, int, int) throws NoSuchElementException",
        "int end(int) throws NoSuchElementException",
        "int matches(int) throws IllegalArgumentException",
        "int mother(int, int) throws NoSuchElementException",
        "int mothers(int, int) throws NoSuchElementException, IllegalArgumentException",
        "int may(int) throws NoSuchElementException",
        "int tells(int, int) throws NoSuchElementException",
        "int near(int) throws IllegalArgumentException",
        "int years(int, int, int) throws NoSuchElementException, IllegalArgumentException",
        "void image()",
        "boolean restore()",
    };

    private FaceTest() {
    }

    public static void main(String[] args) {
        Class<?> face = LampValley.class;
        Check.same("modifiers", Modifier.toString(face.getModifiers()), "public final");
        TreeSet<String> seen = new TreeSet<>();
        TreeSet<String> names = new TreeSet<>();
        for (Method method : face.getDeclaredMethods()) {
            if (!Modifier.isPrivate(method.getModifiers())) {
                seen.add(tell(method));
                names.add(method.getName());
            }
        }
        Check.same("methods", seen, new TreeSet<>(Arrays.asList(METHODS)));
        for (Method method : face.getDeclaredMethods()) {
            if (Modifier.isPrivate(method.getModifiers())) {
                Check.same(method + " bears a public name", names.contains(method.getName()), false);
            }
        }
        for (Field field : face.getDeclaredFields()) {
            if (!Modifier.isPrivate(field.getModifiers())) {
                Check.same("field", field.toString(), "public static final int LampValley.NONE");
            }
        }
        for (Constructor<?> constructor : face.getDeclaredConstructors()) {
            Check.same("constructor", constructor.toString(), "public LampValley()");
        }
        Check.same("NONE", LampValley.NONE, -1);
        Check.finish("FaceTest");
    }

    private static String tell(Method method) {
        StringBuilder text = new StringBuilder();
        text.append(method.getReturnType().getSimpleName()).append(' ').append(method.getName());
        text.append('(').append(join(method.getParameterTypes())).append(')');
        if (method.getExceptionTypes().length > 0) {
            text.append(" throws ").append(join(method.getExceptionTypes()));
        }
        return text.toString();
    }

    private static String join(Class<?>[] types) {
        StringBuilder text = new StringBuilder();
        for (Class<?> type : types) {
            text.append(text.length() == 0 ? "" : ", ").append(type.getSimpleName());
        }
        return text.toString();
    }
}
