import java.lang.reflect.InvocationTargetException;
import java.lang.reflect.Method;
import java.util.ArrayList;
import java.util.Arrays;
import java.util.Comparator;
import java.util.List;
import java.util.Random;

/** All promises at once: the same calls go to Twinindex and to PlainIndex, and each answer is compared. */
public final class RandomRunsTest {
    private static final int RUNS = 1500;
    private static final int CALLS = 512;
    private static final List<String> RARE = List.of("clear", "forget", "keep", "rangeClear", "back", "undo");
    private static final List<String> OFTEN = List.of("put", "putNew", "rangePut", "replace", "next");

    private RandomRunsTest() {
    }

    public static void main(String[] args) throws ReflectiveOperationException {
        List<Method> methods = methods();
        boolean isAsDue = true;
        // The first run that goes wrong is printed whole; more of them would tell little.
        for (int run = 0; run < RUNS && isAsDue; run++) {
            isAsDue = run(methods, new Random(run), run % 4);
        }
        Check.end("RandomRunsTest");
    }

    /** The methods of the face, sorted; those that fill an index several times, so that runs reach 24. */
    private static List<Method> methods() {
        Method[] face = Arrays.stream(Twinindex.class.getDeclaredMethods())
                .filter(method -> java.lang.reflect.Modifier.isPublic(method.getModifiers()))
                .sorted(Comparator.comparing(Method::getName))
                .toArray(Method[]::new);
        List<Method> all = new ArrayList<>();
        for (Method method : face) {
            int times = OFTEN.contains(method.getName()) ? 8 : RARE.contains(method.getName()) ? 1 : 2;
            for (int time = 0; time < times; time++) {
                all.add(method);
            }
        }
        return all;
    }

    private static boolean run(List<Method> methods, Random random, int kind) throws ReflectiveOperationException {
        Twinindex index = new Twinindex();
        PlainIndex plain = new PlainIndex();
        StringBuilder calls = new StringBuilder();
        for (int call = 0; call < CALLS; call++) {
            Method method = methods.get(random.nextInt(methods.size()));
            Object[] with = arguments(method, random, kind);
            Method due = PlainIndex.class.getMethod(method.getName(), method.getParameterTypes());
            String name = method.getName() + Arrays.toString(with);
            calls.append("\n  ").append(name);
            String got = answer(method, index, with) + " " + index.digest() + index.uses();
            String want = answer(due, plain, with) + " " + plain.digest() + plain.uses();
            Check.same(0, got.equals(want) ? name : calls.toString(), got, want);
            if (!got.equals(want)) {
                return false;
            }
        }
        return true;
    }

    private static String answer(Method method, Object index, Object[] with) throws ReflectiveOperationException {
        try {
            return String.valueOf(method.invoke(index, with));
        } catch (InvocationTargetException e) {
            return e.getCause().getClass().getName();
        }
    }

    private static Object[] arguments(Method method, Random random, int kind) {
        Class<?>[] types = method.getParameterTypes();
        Object[] with = new Object[types.length];
        for (int at = 0; at < types.length; at++) {
            with[at] = types[at] == boolean.class ? (Object) random.nextBoolean() : number(method, at, random, kind);
        }
        return with;
    }

    private static int number(Method method, int at, Random random, int kind) {
        String name = method.getName();
        boolean isHow = name.contains("ear") && at == method.getParameterCount() - 1 && !name.contains("lear");
        boolean isPager = (name.equals("next") || name.equals("page") || name.equals("ofPager")) && at == 0;
        boolean isWhat = name.equals("house") || name.equals("ofPager") && at == 1;
        if (isHow || isPager || isWhat) {
            return random.nextInt(20) == 0 ? random.nextInt(12) - 4 : random.nextInt(isPager ? 3 : 4);
        }
        if (name.equals("next") || name.equals("keep")) {
            return random.nextInt(10) == 0 ? random.nextInt(40) - 7 : 1 + random.nextInt(24);
        }
        boolean isValue = name.contains("ut") && at == method.getParameterCount() - 1
                || name.contains("place") && at > 0
                || name.endsWith("If") && at > 0
                || name.equals("hasValue");
        return isValue ? value(random) : key(random, kind);
    }

    private static int value(Random random) {
        int[] edges = {-1001, -1000, -999, 999, 1000, Integer.MIN_VALUE, Integer.MAX_VALUE};
        return random.nextInt(12) == 0 ? edges[random.nextInt(edges.length)] : random.nextInt(5) - 2;
    }

    private static int key(Random random, int kind) {
        int[] edges = {Integer.MIN_VALUE, Integer.MIN_VALUE + 1, -1, 0, 1, Integer.MAX_VALUE - 1, Integer.MAX_VALUE};
        if (random.nextInt(8) == 0) {
            return edges[random.nextInt(edges.length)];
        }
        int[] spans = {6, 30, 60, 1_000_000_000};
        return random.nextInt(spans[kind]) - spans[kind] / 2;
    }
}
