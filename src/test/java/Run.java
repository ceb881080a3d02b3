import java.lang.reflect.InvocationTargetException;
import java.lang.reflect.Method;
import java.lang.reflect.Modifier;
import java.util.ArrayList;
import java.util.Arrays;
import java.util.Comparator;
import java.util.HashMap;
import java.util.List;
import java.util.Map;
import java.util.Set;
import java.util.TreeSet;
import java.util.regex.Matcher;
import java.util.regex.Pattern;

/**
 * A run of calls on a new index, each told as a text: "put(least, -999)". As the calls are kept, the run can
 * be made once more, with a call or without it: so a test sees whether that call has left all as it was, the
 * STEPS and the COPY too.
 */
final class Run {
    static final Class<?> ILLEGAL = IllegalArgumentException.class;
    static final Class<?> STATE = IllegalStateException.class;
    static final Class<?> BOUNDS = IndexOutOfBoundsException.class;
    static final int NONE = -1000;
    static final int REFUSED = -9999;
    static final int LEAST = Integer.MIN_VALUE;
    static final int GREATEST = Integer.MAX_VALUE;

    private static final Pattern CALL = Pattern.compile("(\\w+)\\((.*)\\)");
    private static final Map<String, Method> FACE = new HashMap<>();
    private static final String[] NO_ARGUMENTS = {};
    private static String test = "";

    private final Twinindex index = new Twinindex();
    private final List<String> calls = new ArrayList<>();

    static {
        for (Method method : Twinindex.class.getDeclaredMethods()) {
            if (Modifier.isPublic(method.getModifiers())) {
                FACE.put(method.getName(), method);
            }
        }
    }

    private Run() {
    }

    /** A run that begins with these calls; none of them may throw. */
    static Run of(String... calls) {
        return new Run().then(calls);
    }

    /** KEYS 10, 20, 30, 40 with VALUES 1 to 4; BY USE 30, 10, 40, 20. */
    static Run four() {
        return of("put(30, 3)", "put(10, 1)", "put(40, 4)", "put(20, 2)");
    }

    /** 24 PAIRS: KEYS 10, 20 to 240, with VALUES 1 to 24. */
    static Run full() {
        Run run = new Run();
        for (int number = 1; number <= 24; number++) {
            run.then("put(" + 10 * number + ", " + number + ")");
        }
        return run;
    }

    /** The least and the greatest KEY, and the ones around 0. */
    static Run ends() {
        return of("put(greatest, 1)", "put(0, 2)", "put(least, 3)", "put(-1, 4)");
    }

    Run then(String... more) {
        for (String call : more) {
            Object answer = answer(index, call);
            calls.add(call);
            if (answer instanceof Class) {
                told(call + " of the run", answer, "no exception");
            }
        }
        return this;
    }

    /** The call answers this (an exception: its class). */
    Run gives(String call, Object due) {
        Object answer = answer(index, call);
        calls.add(call);
        told(call, answer, due);
        return this;
    }

    /** The call answers this, and all stays as it was. */
    Run leaves(String call, Object due) {
        List<String> without = List.copyOf(calls);
        gives(call, due);
        told("all that is there after " + call, all(again(calls)), all(again(without)));
        return this;
    }

    String text() {
        return index.text();
    }

    Run text(String due) {
        return gives("text()", due);
    }

    Run uses(String due) {
        return gives("uses()", due);
    }

    Run steps(int due) {
        return gives("steps()", due);
    }

    /** Runs each test of the class, sorted by name; each of the promises has to have one. */
    static void tests(Class<?> of, int firstPromise, int lastPromise) {
        Method[] all = of.getDeclaredMethods();
        Arrays.sort(all, Comparator.comparing(Method::getName));
        Set<Integer> promises = new TreeSet<>();
        for (Method each : all) {
            Matcher name = Pattern.compile("promise(\\d+).*|description.*").matcher(each.getName());
            if (name.matches()) {
                promises.add(name.group(1) == null ? 0 : Integer.parseInt(name.group(1)));
                test(each);
            }
        }
        test = of.getName();
        for (int promise = firstPromise; promise <= lastPromise; promise++) {
            told("promise " + promise + " has a test", promises.contains(promise), true);
        }
        Check.end(of.getName());
    }

    static void told(String call, Object got, Object due) {
        Check.same(test + ": " + call, got, due);
    }

    private static void test(Method method) {
        test = method.getName();
        try {
            method.setAccessible(true);
            method.invoke(null);
        } catch (InvocationTargetException e) {
            told("the test", e.getCause(), "ends");
        } catch (IllegalAccessException e) {
            throw new IllegalStateException(e);
        }
    }

    private static Twinindex again(List<String> calls) {
        Twinindex index = new Twinindex();
        for (String call : calls) {
            answer(index, call);
        }
        return index;
    }

    /** All that further calls can tell of an index; they change it. */
    private static String all(Twinindex index) {
        StringBuilder all = new StringBuilder(Check.sight(index));
        for (int many = index.steps(); many >= 0; many--) {
            all.append("\n  undo() ").append(index.undo()).append(' ').append(index.text()).append(index.uses());
        }
        all.append("\n  back() ").append(index.back()).append(' ').append(index.text()).append(index.uses());
        all.append("\n  undo() ").append(index.undo()).append(' ').append(index.text()).append(index.uses());
        return all.append("\n  digest() ").append(index.digest()).toString();
    }

    private static Object answer(Twinindex index, String call) {
        Matcher parts = CALL.matcher(call);
        if (!parts.matches() || !FACE.containsKey(parts.group(1))) {
            throw new IllegalArgumentException(call);
        }
        try {
            return FACE.get(parts.group(1)).invoke(index, arguments(parts.group(2)));
        } catch (InvocationTargetException e) {
            return e.getCause().getClass();
        } catch (IllegalAccessException e) {
            throw new IllegalStateException(e);
        }
    }

    private static Object[] arguments(String text) {
        String[] words = text.isEmpty() ? NO_ARGUMENTS : text.split(", ");
        Object[] arguments = new Object[words.length];
        for (int at = 0; at < words.length; at++) {
            arguments[at] = argument(words[at]);
        }
        return arguments;
    }

    private static Object argument(String word) {
        switch (word) {
            case "true":
                return true;
            case "false":
                return false;
            case "least":
                return LEAST;
            case "greatest":
                return GREATEST;
            default:
                return Integer.valueOf(word);
        }
    }
}
