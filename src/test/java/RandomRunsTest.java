import java.lang.reflect.InvocationTargetException;
import java.lang.reflect.Method;
import java.util.ArrayList;
import java.util.Comparator;
import java.util.List;
import java.util.Map;
import java.util.Set;
import java.util.TreeMap;

/** Long runs of calls of all kinds, the same on each run of the test, against the model. */
final class RandomRunsTest {
    private static final int CALLS = 512;
    private static final Set<String> SLOW = Set.of("filled", "lacks", "stables", "stableAt", "fairest", "gain", "cutFor",
            "lie", "without", "withoutHouse");
    private static final Set<String> CLEARING = Set.of("add", "places", "read", "cut");
    private static final String[] LIVELY = {"run", "run", "stableAt", "turn", "rotationAt", "rotationLength", "pair",
        "offer", "offer", "heldAt"};
    private static final Map<String, Integer> ANSWERED = new TreeMap<>();
    private static final Map<String, Integer> THROWN = new TreeMap<>();
    private static long seed;

    private RandomRunsTest() {
    }

    public static void main(String[] args) throws ReflectiveOperationException {
        int runs = args.length > 2 ? Integer.parseInt(args[2]) : 1000;
        List<Method> calls = new ArrayList<>();
        for (Method method : Model.class.getDeclaredMethods()) {
            if (java.lang.reflect.Modifier.isPublic(method.getModifiers())) {
                calls.add(method);
            }
        }
        calls.sort(Comparator.comparing(Method::getName));
        Check.due("calls of the model", 52, calls.size());
        for (int run = 0; run < runs; run++) {
            seed = 1000003L * run + 17;
            one(run, calls);
        }
        for (Method call : calls) {
            Check.due(call.getName() + " was answered", true, ANSWERED.containsKey(call.getName()));
        }
        if (args.length > 2) {
            System.out.println("answered " + ANSWERED);
            System.out.println("thrown " + THROWN);
        }
        Check.end();
    }

    private static int below(int bound) {
        seed = seed * 6364136223846793005L + 1442695040888963407L;
        return (int) ((seed >>> 33) % bound);
    }

    /** A run has few or many of each side, so that numbers out of range and in it both come. */
    private static void one(int run, List<Method> calls) throws ReflectiveOperationException {
        StablepairBureau x = new StablepairBureau();
        Model model = new Model();
        List<String> told = new ArrayList<>();
        int[] sizes = {below(run % 3 == 0 ? 4 : 6), below(run % 3 == 0 ? 4 : 6), below(run % 4 == 0 ? 10 : 6)};
        if (run % 5 < 3) {
            sizes = new int[] {2 + below(4), 0, below(4)};
            sizes[1] = sizes[0];
        }
        if (run % 16 == 0) {
            sizes = new int[] {10, 10, 8};
        }
        Object same = null;
        for (int step = 0; told.size() < CALLS - 9; step++) {
            if (step % 90 < 2 * (sizes[0] + sizes[1] + sizes[2]) + below(8)) {
                same = prepare(x, model, sizes, told);
            } else if (below(10) == 0) {
                same = turnDown(x, model, told);
            } else if (below(10) == 0) {
                same = offerOn(x, model, "ph".charAt(below(2)), told);
            } else {
                Method method = calls.get(below(calls.size()));
                if (CLEARING.contains(method.getName()) && below(8) != 0) {
                    method = named(LIVELY[below(LIVELY.length)]);
                }
                same = both(x, model, method, arguments(method, sizes), told);
            }
            if (same != null) {
                Check.due("run " + run + " after " + told, "the same", same);
                return;
            }
        }
        Check.due("run " + run, null, same);
    }

    /** Adds up to the sizes, and then types and reads lists and gives, all by calls. */
    private static Object prepare(StablepairBureau x, Model model, int[] sizes, List<String> told)
            throws ReflectiveOperationException {
        char[] sides = {'p', 'h', 'm'};
        for (int k = 0; k < 3; k++) {
            if (model.many(sides[k]) < sizes[k]) {
                return both(x, model, named("add"), new Object[] {sides[k]}, told);
            }
        }
        if (below(9) == 0) {
            return both(x, model, named("give"), new Object[] {below(9), below(9), below(4) != 0}, told);
        }
        if (below(30) == 0) {
            return both(x, model, named("places"), new Object[] {below(sizes[1] + 1), 1 + below(3)}, told);
        }
        int k = below(5) == 0 ? 2 : below(2);
        int who = emptiest(model, sides[k]);
        int bound = sizes[k == 0 ? 1 : k == 1 ? 0 : 2];
        String list = below(2) == 0 ? round(who + k, bound) : list(bound);
        for (char sign : list.toCharArray()) {
            Object wrong = both(x, model, named("type"), new Object[] {sign}, told);
            if (wrong != null) {
                return wrong;
            }
        }
        if (k == 0 && below(5) == 0 && model.mayEnumerate()) {
            return both(x, model, named("lie"), new Object[] {who}, told);
        }
        return both(x, model, named("read"), new Object[] {sides[k], who}, told);
    }

    private static Object call(StablepairBureau x, Model model, List<String> told, String name, Object... arguments)
            throws ReflectiveOperationException {
        return told.size() < CALLS ? both(x, model, named(name), arguments, told) : null;
    }

    /** Turns one rotation after the other, down to the houses' best, and looks at all of each. */
    private static Object turnDown(StablepairBureau x, Model model, List<String> told)
            throws ReflectiveOperationException {
        Object same = call(x, model, told, "run", 'p');
        int left = same == null ? model.rotations() : 0;
        while (left > 0 && same == null && told.size() < CALLS) {
            for (int index = 0; index <= left && same == null; index++) {
                same = call(x, model, told, "rotationLength", index);
                for (int place = 0; index < left && place <= model.rotationLength(index) && same == null; place++) {
                    same = call(x, model, told, "rotationAt", index, place);
                }
            }
            same = same == null ? call(x, model, told, "turn", below(left)) : same;
            left = model.rotations();
        }
        return same;
    }

    private static Object offerOn(StablepairBureau x, Model model, char side, List<String> told)
            throws ReflectiveOperationException {
        Object same = call(x, model, told, "begin", side);
        for (int step = 0; step < 30 && same == null && model.open() > 0; step++) {
            same = call(x, model, told, "offer", below(model.many(side)));
        }
        return same;
    }

    private static int emptiest(Model model, char side) {
        int many = model.many(side);
        for (int who = 0; who < many; who++) {
            if (model.length(side, who) == 0 && below(5) != 0) {
                return who;
            }
        }
        return below(many + 1);
    }

    private static Method named(String name) {
        for (Method method : Model.class.getDeclaredMethods()) {
            if (method.getName().equals(name)) {
                return method;
            }
        }
        throw new IllegalArgumentException(name);
    }

    /** Lists that go round, each one's best liking it least, have many stable pairings. */
    private static String round(int first, int bound) {
        StringBuilder row = new StringBuilder();
        for (int k = 0; k < bound; k++) {
            row.append(k == 0 ? "" : ">").append((first + k) % bound);
        }
        return row.toString();
    }

    private static String list(int bound) {
        List<Integer> left = new ArrayList<>();
        for (int k = 0; k < bound; k++) {
            left.add(k);
        }
        StringBuilder row = new StringBuilder();
        int size = below(3) == 0 ? below(bound + 1) : bound;
        for (int k = 0; k < size && !left.isEmpty(); k++) {
            row.append(k == 0 ? "" : below(4) == 0 ? "=" : ">");
            row.append(below(20) == 0 ? "0" : "");
            row.append(below(100) == 0 ? Integer.valueOf(below(12)) : left.remove(below(left.size())));
        }
        if (below(40) == 0) {
            row.insert(below(row.length() + 1), ">= x0".charAt(below(5)));
        }
        return row.toString();
    }

    private static Object[] arguments(Method method, int[] sizes) {
        Class<?>[] kinds = method.getParameterTypes();
        Object[] all = new Object[kinds.length];
        boolean wild = below(12) == 0;
        for (int k = 0; k < all.length; k++) {
            if (kinds[k] == boolean.class) {
                all[k] = below(2) == 0;
            } else if (kinds[k] == char.class) {
                all[k] = wild ? (char) below(140) : character(method.getName());
            } else {
                int[] far = {-1, 9, 10, 11, 60, 100, Integer.MIN_VALUE, Integer.MAX_VALUE};
                all[k] = wild && below(2) == 0 ? far[below(far.length)] : below(2 + sizes[below(2)]);
            }
        }
        return all;
    }

    private static char character(String name) {
        return switch (name) {
            case "type" -> "0123456789>=".charAt(below(12));
            case "fairest" -> "sw".charAt(below(2));
            case "begin", "run", "meanRank" -> "phphphm".charAt(below(7));
            default -> "phm".charAt(below(3));
        };
    }

    /** Answers null if both said the same, and showed the same then. */
    private static Object both(StablepairBureau x, Model model, Method method, Object[] arguments, List<String> told)
            throws ReflectiveOperationException {
        if (SLOW.contains(method.getName()) && !model.mayEnumerate()) {
            return null;
        }
        Method call = StablepairBureau.class.getDeclaredMethod(method.getName(), method.getParameterTypes());
        StringBuilder row = new StringBuilder(method.getName());
        for (Object argument : arguments) {
            row.append(' ').append(argument instanceof Character ? "'" + argument + "'" : argument);
        }
        told.add(row.toString());
        Object got = answer(call, x, arguments);
        Object due = answer(method, model, arguments);
        if (!due.equals(got)) {
            return "answered " + got + ", due is " + due;
        }
        (due instanceof Class ? THROWN : ANSWERED).merge(method.getName(), 1, Integer::sum);
        String shown = x.checksum() + " " + x.offers() + " " + x.blocks() + " " + x.isStable() + Check.canOffer(x);
        String wanted = model.checksum() + " " + model.offers() + " " + model.blocks() + " " + model.isStable()
                + openOf(model);
        return shown.equals(wanted) ? null : "showed " + shown + ", due is " + wanted;
    }

    private static String openOf(Model model) {
        try {
            return "open " + model.open();
        } catch (IllegalStateException e) {
            return "no offers have begun";
        }
    }

    private static Object answer(Method method, Object of, Object[] arguments) throws ReflectiveOperationException {
        method.setAccessible(true);
        try {
            return method.invoke(of, arguments);
        } catch (InvocationTargetException e) {
            if (e.getCause() instanceof AssertionError) {
                throw e;
            }
            return e.getCause().getClass();
        }
    }
}
