import java.lang.reflect.InvocationTargetException;
import java.lang.reflect.Method;
import java.lang.reflect.Modifier;
import java.util.Arrays;
import java.util.Comparator;
import java.util.Set;

/**
 * Rule 7 of LANGUAGE.md: no call throws, whatever its arguments are, in whatever state, also behind
 * the 512th call, whose answer is free. The calls come from a fixed sequence of numbers.
 */
public final class AnyCallTest {
    private static final int OBJECTS = 20;
    private static final int CALLS = 20000;
    private static final int[] ODD = {-1, -2, 5, 6, 7, 9, 10, 30, 59, 60, 61, Integer.MAX_VALUE, Integer.MIN_VALUE};

    private static final Set<String> TAKING = Set.of("take", "drop", "lose", "clear", "copy", "prune", "remove");

    private static long seed = 1;

    public static void main(String[] args) throws IllegalAccessException {
        Due due = new Due();
        due.about("any call");
        Method[] methods = Arrays.stream(Pegrow.class.getDeclaredMethods())
                .filter(method -> Modifier.isPublic(method.getModifiers()))
                .sorted(Comparator.comparing(Method::getName)).toArray(Method[]::new);
        for (int object = 0; object < OBJECTS; object++) {
            Pegrow x = new Pegrow();
            for (int call = 0; call < CALLS; call++) {
                Method method = methods[below(methods.length)];
                // Else no row of these objects would ever be full.
                boolean isLeftOut = object % 2 == 1 && TAKING.contains(method.getName()) && below(20) != 0;
                if (!isLeftOut) {
                    ask(due, x, method);
                }
            }
        }
        due.end();
    }

    private static void ask(Due due, Pegrow x, Method method) throws IllegalAccessException {
        Class<?>[] types = method.getParameterTypes();
        Object[] values = new Object[types.length];
        for (int i = 0; i < types.length; i++) {
            values[i] = types[i] == boolean.class ? (Object) (below(2) == 0) : (Object) number();
        }
        String thrown = "nothing";
        try {
            method.invoke(x, values);
        } catch (InvocationTargetException e) {
            thrown = String.valueOf(e.getCause());
        }
        due.is("what " + method.getName() + Arrays.toString(values) + " threw", thrown, "nothing");
    }

    private static int below(int bound) {
        seed = seed * 6364136223846793005L + 1442695040888963407L;
        return (int) ((seed >>> 33) % bound);
    }

    private static int number() {
        return below(4) == 0 ? ODD[below(ODD.length)] : below(4);
    }
}
