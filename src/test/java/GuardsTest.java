import java.lang.reflect.Field;
import java.lang.reflect.InvocationTargetException;
import java.lang.reflect.Method;
import java.lang.reflect.Modifier;
import java.util.ArrayList;
import java.util.Arrays;
import java.util.Comparator;
import java.util.List;
import java.util.Map;
import java.util.TreeMap;

/**
 * LANGUAGE.md, rule 7: each method of the classes inside guards itself, whatever its arguments are and whatever state
 * the calls before have left, sense or not; so none relies on what its callers have looked at.
 */
final class GuardsTest {
    private static final int[] NUMBERS = {-1000, -11, -2, -1, 0, 1, 2, 3, 4, 5, 6, 7, 8, 9, 10, 11, 12, 60, 61, 81, 99,
        100, 101, 1000};

    private static final Map<String, List<Object>> MADE = new TreeMap<>();
    private static long seed = 3;

    private GuardsTest() {
    }

    public static void main(String[] args) throws ReflectiveOperationException {
        int calls = args.length > 2 ? Integer.parseInt(args[2]) : 200000;
        StablepairBureau x = new StablepairBureau();
        collect(x);
        List<Method> methods = new ArrayList<>();
        for (Class<?> inner : StablepairBureau.class.getDeclaredClasses()) {
            Check.due("there is one of " + inner, true, MADE.containsKey(inner.getName()));
            methods.addAll(Arrays.asList(inner.getDeclaredMethods()));
        }
        methods.sort(Comparator.comparing(Method::toString));
        for (int call = 0; call < calls; call++) {
            one(methods.get(below(methods.size())));
        }
        Check.due("methods", true, methods.size() > 70);
        Check.end();
    }

    private static int below(int bound) {
        seed = seed * 6364136223846793005L + 1442695040888963407L;
        return (int) ((seed >>> 33) % bound);
    }

    /** The objects that a bureau has, and those that these have. */
    private static void collect(Object made) throws ReflectiveOperationException {
        MADE.computeIfAbsent(made.getClass().getName(), name -> new ArrayList<>()).add(made);
        for (Field field : made.getClass().getDeclaredFields()) {
            boolean own = field.getType().getName().startsWith("StablepairBureau");
            if (own && !Modifier.isStatic(field.getModifiers())) {
                field.setAccessible(true);
                collect(field.get(made));
            }
        }
    }

    private static void one(Method method) throws ReflectiveOperationException {
        Class<?>[] kinds = method.getParameterTypes();
        Object[] arguments = new Object[kinds.length];
        for (int k = 0; k < kinds.length; k++) {
            arguments[k] = argument(kinds[k]);
        }
        List<Object> all = MADE.get(method.getDeclaringClass().getName());
        method.setAccessible(true);
        try {
            method.invoke(all.get(below(all.size())), arguments);
            Check.due("answered", true, true);
        } catch (InvocationTargetException e) {
            Check.due(method + " of " + Arrays.deepToString(arguments), "no exception", e.getCause());
        }
    }

    private static Object argument(Class<?> kind) {
        if (kind == int.class) {
            return NUMBERS[below(NUMBERS.length)];
        }
        if (kind == long.class) {
            return below(2) * 12L * below(2000000000) - below(3);
        }
        if (kind == char.class) {
            return "ph0123456789>=x".charAt(below(15));
        }
        if (kind == boolean.class) {
            return below(2) == 0;
        }
        if (kind == int[].class) {
            int[] numbers = new int[below(14)];
            for (int k = 0; k < numbers.length; k++) {
                numbers[k] = NUMBERS[below(NUMBERS.length)];
            }
            return numbers;
        }
        List<Object> all = MADE.get(kind.getName());
        return all.get(below(all.size()));
    }
}
