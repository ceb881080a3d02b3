import java.math.BigInteger;

/** What the tests share: they count and print each answer that is not the one that is due. */
final class Check {
    interface Call {
        Object answer();
    }

    static final int NONE = -1000;
    static final int REFUSED = -9999;
    static final int LEAST = Integer.MIN_VALUE;
    static final int GREATEST = Integer.MAX_VALUE;

    private static int passed = 0;
    private static int failed = 0;

    private Check() {
    }

    static void same(int promise, String call, Object got, Object due) {
        same("promise " + promise + ": " + call, got, due);
    }

    static void same(String call, Object got, Object due) {
        if (due.equals(got)) {
            passed++;
            return;
        }
        failed++;
        System.out.println(call + " answered " + got + ", due is " + due);
    }

    /** The call answers this, and all that can be seen of the index stays as it was. */
    static void asks(int promise, String name, Twinindex index, Call call, Object due) {
        String before = sight(index);
        same(promise, name, call.answer(), due);
        same(promise, name + " leaves", sight(index), before);
    }

    /** The call throws just this, and all that can be seen of the index stays as it was. */
    static void refuses(int promise, String name, Twinindex index, Class<?> due, Call call) {
        String before = sight(index);
        Object thrown = "nothing";
        try {
            call.answer();
        } catch (RuntimeException e) {
            thrown = e.getClass();
        }
        same(promise, name + " throws", thrown, due);
        same(promise, name + " leaves", sight(index), before);
    }

    /** An index that has these PAIRS: KEY, VALUE, KEY, VALUE; put in this sequence. */
    static Twinindex with(int... keysAndValues) {
        Twinindex index = new Twinindex();
        for (int at = 0; at + 1 < keysAndValues.length; at += 2) {
            index.put(keysAndValues[at], keysAndValues[at + 1]);
        }
        return index;
    }

    /** An index with 24 PAIRS: KEYS 10, 20 to 240, with VALUES 1 to 24. */
    static Twinindex full() {
        Twinindex index = new Twinindex();
        for (int number = 1; number <= 24; number++) {
            index.put(10 * number, number);
        }
        return index;
    }

    static String sight(Twinindex index) {
        StringBuilder sight = new StringBuilder(index.text());
        sight.append(" by use ").append(index.uses());
        for (int what = 0; what <= 4; what++) {
            sight.append(' ').append(index.house(what));
        }
        for (int pager = 0; pager <= 2; pager++) {
            for (int what = 0; what <= 3; what++) {
                sight.append(' ').append(index.ofPager(pager, what));
            }
        }
        return sight.append(" apart ").append(index.apart()).toString();
    }

    /** What digest() makes of these numbers; it counts without bound, and wraps around at the end. */
    static long digestOf(long... numbers) {
        BigInteger d = BigInteger.valueOf(7839);
        for (long number : numbers) {
            d = d.multiply(BigInteger.valueOf(31)).add(BigInteger.valueOf(number));
        }
        return d.longValue();
    }

    static void end(String name) {
        System.out.println(name + ": " + passed + " passed, " + failed + " failed");
        if (failed > 0 || passed == 0) {
            System.exit(1);
        }
    }
}
