import java.lang.reflect.InvocationTargetException;
import java.lang.reflect.Method;
import java.lang.reflect.Modifier;
import java.util.ArrayList;
import java.util.Arrays;
import java.util.Comparator;
import java.util.List;
import java.util.Random;

/**
 * Any arguments in any state, also far beyond the 512th call: a call throws nothing but what its own
 * line in the document names, of the very class, so nothing that the machine throws by itself.
 */
public final class WildTest {
    private static final int OBJECTS = 40;
    private static final int CALLS = 5000;
    private static final int[] EDGES = {
        Integer.MIN_VALUE, Integer.MIN_VALUE + 1, -1440, -100, -2, -1, 0, 1, 2, 3, 4, 5, 7, 8, 15, 16, 17, 31, 32, 99, 100,
        101, 107, 108, 199, 200, 1439, 1440, 5000, 5001, 6944, 6945, 10_000_000, 10_000_001, Integer.MAX_VALUE - 1,
        Integer.MAX_VALUE};

    private static final Check CHECK = new Check();

    public static void main(String[] args) throws IllegalAccessException {
        CHECK.says("What it is", "what later calls answer is free");
        Method[] face = Arrays.stream(ConsentRegister.class.getDeclaredMethods())
                .filter(m -> Modifier.isPublic(m.getModifiers()))
                .sorted(Comparator.comparing(Method::getName)).toArray(Method[]::new);
        for (int seed = 0; seed < OBJECTS && !CHECK.failed(); seed++) {
            run(face, new Random(seed));
        }
        CHECK.end();
    }

    private static void run(Method[] face, Random random) throws IllegalAccessException {
        ConsentRegister x = new ConsentRegister();
        for (int call = 0; call < CALLS; call++) {
            Method method = face[random.nextInt(face.length)];
            Object[] arguments = arguments(method, random);
            CHECK.that(method.getName() + Arrays.toString(arguments) + " as call " + call, throwsOnlyItsOwn(x, method, arguments));
        }
    }

    private static Object[] arguments(Method method, Random random) {
        List<Object> all = new ArrayList<>();
        for (Class<?> type : method.getParameterTypes()) {
            boolean small = random.nextInt(3) > 0;
            if (type == boolean.class) {
                all.add(random.nextBoolean());
            } else {
                all.add(small ? random.nextInt(9) : EDGES[random.nextInt(EDGES.length)]);
            }
        }
        return all.toArray();
    }

    private static boolean throwsOnlyItsOwn(ConsentRegister x, Method method, Object[] arguments) throws IllegalAccessException {
        try {
            method.invoke(x, arguments);
            return true;
        } catch (InvocationTargetException e) {
            return Arrays.asList(method.getExceptionTypes()).contains(e.getCause().getClass());
        }
    }
}
