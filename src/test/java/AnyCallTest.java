import java.lang.reflect.InvocationTargetException;
import java.lang.reflect.Method;
import java.util.ArrayList;
import java.util.Arrays;
import java.util.Comparator;
import java.util.List;
import java.util.Random;

/** Any arguments in any state: a call throws only what it declares, and changes nothing then. */
public final class AnyCallTest {
    private static final int RUNS = 60;
    private static final int CALLS = 512;
    private static final int[] ODD_NUMBERS = {
        Integer.MIN_VALUE, Integer.MIN_VALUE + 1, -65536, -2, -1, 31, 32, 33, 63, 64, 99, 100, 101, 255, 256,
        499, 500, 501, 65536, 1 << 30, Integer.MAX_VALUE - 1, Integer.MAX_VALUE};
    private static final String TEXT = "full 9;plain 0 9 0;shy 1 0 9;bold 0 3 3;drunk 1 2 5;widow 0 0 0;"
            + "plain 1 8 1;near 1;likes 0 1;likes 1 2;likes 2 3;likes 3 0;likes 5 0;fog 0 0 1;fog 3 1 2;";

    private AnyCallTest() {
    }

    public static void main(String[] args) throws IllegalAccessException {
        Method[] methods = LampValley.class.getDeclaredMethods();
        List<Method> face = new ArrayList<>();
        for (Method method : methods) {
            if (java.lang.reflect.Modifier.isPublic(method.getModifiers())) {
                face.add(method);
            }
        }
        face.sort(Comparator.comparing(Method::getName));
        for (int run = 0; run < RUNS; run++) {
            play(face, new Random(run), run);
        }
        Check.finish("AnyCallTest");
    }

    private static void play(List<Method> face, Random random, int run) throws IllegalAccessException {
        LampValley x = new LampValley();
        for (int i = 0; i < CALLS; i++) {
            if (random.nextInt(60) == 0 && x.count(9) == 0) {
                Check.tell(x, TEXT);
            }
            Method method = face.get(random.nextInt(face.size()));
            Object[] arguments = new Object[method.getParameterCount()];
            for (int at = 0; at < arguments.length; at++) {
                arguments[at] = pick(random);
            }
            String before = Check.look(x);
            try {
                method.invoke(x, arguments);
            } catch (InvocationTargetException e) {
                String call = "run " + run + ": " + method.getName() + Arrays.toString(arguments);
                boolean declared = Arrays.asList(method.getExceptionTypes()).contains(e.getCause().getClass());
                Check.same(call + " may throw " + e.getCause(), declared, true);
                Check.same(call + " throws, and then all", Check.look(x), before);
            }
        }
    }

    private static int pick(Random random) {
        int kind = random.nextInt(10);
        if (kind == 0) {
            return ODD_NUMBERS[random.nextInt(ODD_NUMBERS.length)];
        }
        return kind == 1 ? random.nextInt() : kind == 2 ? random.nextInt(100) : random.nextInt(7);
    }
}
