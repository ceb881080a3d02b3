/** Promises 15 to 22: the PAIRS BY KEYS. */
public final class KeysTest {
    private static final Class<?> ILLEGAL = IllegalArgumentException.class;
    private static final Class<?> STATE = IllegalStateException.class;

    public static void main(String[] args) {
        first();
        near();
        nearTheEnds();
        nearValue();
        poll();
        keys();
        values();
        text();
        hash();
        Check.end("KeysTest");
    }

    private static void first() {
        Twinindex x = Check.with(5, 1, -3, 2, 9, 3);
        Check.asks(15, "first(false)", x, () -> x.first(false), -3);
        Check.asks(15, "first(true)", x, () -> x.first(true), 9);
        Twinindex ends = Check.with(0, 0, Check.GREATEST, 1, Check.LEAST, 2);
        Check.asks(15, "first(false)", ends, () -> ends.first(false), Check.LEAST);
        Check.asks(15, "first(true)", ends, () -> ends.first(true), Check.GREATEST);
        Twinindex none = new Twinindex();
        Check.refuses(15, "first(false) of none", none, STATE, () -> none.first(false));
        Check.refuses(15, "first(true) of none", none, STATE, () -> none.first(true));
    }

    private static void near() {
        Twinindex x = Check.with(20, 2, 10, 1, 30, 3);
        Check.asks(16, "near(20, 0)", x, () -> x.near(20, 0), 10);
        Check.asks(16, "near(20, 1)", x, () -> x.near(20, 1), 20);
        Check.asks(16, "near(20, 2)", x, () -> x.near(20, 2), 20);
        Check.asks(16, "near(20, 3)", x, () -> x.near(20, 3), 30);
        Check.asks(16, "near(25, 0)", x, () -> x.near(25, 0), 20);
        Check.asks(16, "near(25, 1)", x, () -> x.near(25, 1), 20);
        Check.asks(16, "near(25, 2)", x, () -> x.near(25, 2), 30);
        Check.asks(16, "near(25, 3)", x, () -> x.near(25, 3), 30);
        Check.refuses(16, "near(10, 0)", x, STATE, () -> x.near(10, 0));
        Check.refuses(16, "near(9, 1)", x, STATE, () -> x.near(9, 1));
        Check.refuses(16, "near(31, 2)", x, STATE, () -> x.near(31, 2));
        Check.refuses(16, "near(30, 3)", x, STATE, () -> x.near(30, 3));
        Check.refuses(16, "near(20, -1)", x, ILLEGAL, () -> x.near(20, -1));
        Check.refuses(16, "near(20, 4)", x, ILLEGAL, () -> x.near(20, 4));
        Twinindex none = new Twinindex();
        Check.refuses(16, "near(0, 4) of none", none, ILLEGAL, () -> none.near(0, 4));
        Check.refuses(16, "near(0, 1) of none", none, STATE, () -> none.near(0, 1));
    }

    private static void nearTheEnds() {
        Twinindex x = Check.with(Check.GREATEST, 1, Check.LEAST, 2);
        Check.asks(16, "near(least, 1)", x, () -> x.near(Check.LEAST, 1), Check.LEAST);
        Check.asks(16, "near(least, 3)", x, () -> x.near(Check.LEAST, 3), Check.GREATEST);
        Check.asks(16, "near(greatest, 2)", x, () -> x.near(Check.GREATEST, 2), Check.GREATEST);
        Check.asks(16, "near(greatest, 0)", x, () -> x.near(Check.GREATEST, 0), Check.LEAST);
        Check.refuses(16, "near(least, 0)", x, STATE, () -> x.near(Check.LEAST, 0));
        Check.refuses(16, "near(greatest, 3)", x, STATE, () -> x.near(Check.GREATEST, 3));
    }

    private static void nearValue() {
        Twinindex x = Check.with(20, 2, 10, 1, 30, 0);
        Check.asks(17, "nearValue(20, 0)", x, () -> x.nearValue(20, 0), 1);
        Check.asks(17, "nearValue(20, 1)", x, () -> x.nearValue(20, 1), 2);
        Check.asks(17, "nearValue(20, 2)", x, () -> x.nearValue(20, 2), 2);
        Check.asks(17, "nearValue(20, 3)", x, () -> x.nearValue(20, 3), 0);
        Check.asks(17, "nearValue(10, 0)", x, () -> x.nearValue(10, 0), Check.NONE);
        Check.asks(17, "nearValue(greatest, 3)", x, () -> x.nearValue(Check.GREATEST, 3), Check.NONE);
        Check.refuses(17, "nearValue(20, -1)", x, ILLEGAL, () -> x.nearValue(20, -1));
        Check.refuses(17, "nearValue(20, 4)", x, ILLEGAL, () -> x.nearValue(20, 4));
    }

    private static void poll() {
        Twinindex x = Check.with(20, 2, 10, 1, 30, 3, 15, 4);
        Check.same(18, "poll(false)", x.poll(false), 10);
        Check.same(18, "poll(true)", x.poll(true), 30);
        Check.same(18, "text()", x.text(), "{15=4, 20=2}");
        Check.same(18, "uses()", x.uses(), "20 15");
        Check.same(18, "steps()", x.steps(), 6);
        x.clear();
        Check.refuses(18, "poll(false) of none", x, STATE, () -> x.poll(false));
        Check.refuses(18, "poll(true) of none", x, STATE, () -> x.poll(true));
    }

    private static void keys() {
        Twinindex x = Check.with(20, 2, Check.LEAST, 1, 30, 3, Check.GREATEST, 4, -1, 5);
        Check.asks(19, "keys(false)", x, () -> x.keys(false), "-2147483648 -1 20 30 2147483647");
        Check.asks(19, "keys(true)", x, () -> x.keys(true), "2147483647 30 20 -1 -2147483648");
        Check.same(19, "keys(false) of one", Check.with(7, 0).keys(false), "7");
        Check.same(19, "keys(false) of none", new Twinindex().keys(false), "");
        Check.same(19, "keys(true) of none", new Twinindex().keys(true), "");
    }

    private static void values() {
        Twinindex x = Check.with(20, 2, 10, -999, 30, 999);
        Check.asks(20, "values()", x, x::values, "-999 2 999");
        x.keys(true);
        Check.asks(20, "values() after keys(true)", x, x::values, "-999 2 999");
        Check.same(20, "values() of none", new Twinindex().values(), "");
    }

    private static void text() {
        Twinindex x = Check.with(20, 2, -10, -999, 30, 0);
        Check.asks(21, "text()", x, x::text, "{-10=-999, 20=2, 30=0}");
        Check.same(21, "text() of one", Check.with(1, 2).text(), "{1=2}");
        Check.same(21, "text() of none", new Twinindex().text(), "{}");
    }

    private static void hash() {
        Twinindex x = Check.with(6, 3, -1, 5);
        Check.asks(22, "hash()", x, x::hash, (6 ^ 3) + (-1 ^ 5));
        Twinindex wraps = Check.with(Check.GREATEST, 0, Check.GREATEST - 1, 0);
        Check.asks(22, "hash() that wraps around", wraps, wraps::hash, -3);
        Check.same(22, "hash() of none", new Twinindex().hash(), 0);
    }
}
