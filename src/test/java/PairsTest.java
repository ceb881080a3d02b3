/** Promises 1 to 14: a new object, and single PAIRS. */
public final class PairsTest {
    private static final Class<?> ILLEGAL = IllegalArgumentException.class;
    private static final Class<?> STATE = IllegalStateException.class;

    public static void main(String[] args) {
        aNewObject();
        put();
        putWithinLimits();
        putNew();
        replace();
        replaceIf();
        remove();
        removeIf();
        clear();
        get();
        getOr();
        look();
        has();
        hasValue();
        size();
        Check.end("PairsTest");
    }

    private static void aNewObject() {
        Twinindex x = new Twinindex();
        Check.same(1, "a new object", Check.sight(x), "{} by use  0 0 0 0 0 0 0 0 0 0 0 0 0 0 0 0 0 apart 0");
        Check.same(1, "isCopy()", x.isCopy(), true);
        Check.same(1, "undo()", x.undo(), Check.REFUSED);
        Check.same(1, "next(0, 1)", x.next(0, 1), "");
        Twinindex y = new Twinindex();
        x.put(1, 1);
        Check.same(1, "another object's size()", y.size(), 0);
    }

    private static void put() {
        Twinindex x = new Twinindex();
        Check.same(2, "put(5, 50)", x.put(5, 50), Check.NONE);
        Check.same(2, "put(3, 30)", x.put(3, 30), Check.NONE);
        Check.same(2, "put(5, 51)", x.put(5, 51), 50);
        Check.same(2, "text()", x.text(), "{3=30, 5=51}");
        Check.same(2, "uses()", x.uses(), "3 5");
        Check.same(2, "steps()", x.steps(), 3);
        Check.same(2, "put(3, 30)", x.put(3, 30), 30);
        Check.same(2, "uses() with the same VALUE", x.uses(), "5 3");
        Check.same(2, "steps() with the same VALUE", x.steps(), 3);
    }

    private static void putWithinLimits() {
        Twinindex x = new Twinindex();
        Check.same(2, "put(least, -999)", x.put(Check.LEAST, -999), Check.NONE);
        Check.same(2, "put(greatest, 999)", x.put(Check.GREATEST, 999), Check.NONE);
        Check.same(2, "text()", x.text(), "{-2147483648=-999, 2147483647=999}");
        Check.refuses(2, "put(1, 1000)", x, ILLEGAL, () -> x.put(1, 1000));
        Check.refuses(2, "put(1, -1000)", x, ILLEGAL, () -> x.put(1, -1000));
        Twinindex full = Check.full();
        Check.refuses(2, "put(5, 1) to 24", full, STATE, () -> full.put(5, 1));
        Check.refuses(2, "put(5, 1000) to 24", full, ILLEGAL, () -> full.put(5, 1000));
        Check.same(2, "put(240, 5) to 24", full.put(240, 5), 24);
        Check.same(2, "put(10, 1) to 24", full.put(10, 1), 1);
        Check.same(2, "aged(true)", full.aged(true), 10);
    }

    private static void putNew() {
        Twinindex x = Check.with(1, 10, 2, 20);
        Check.same(3, "putNew(1, 99)", x.putNew(1, 99), 10);
        Check.same(3, "text()", x.text(), "{1=10, 2=20}");
        Check.same(3, "uses()", x.uses(), "2 1");
        Check.same(3, "steps()", x.steps(), 2);
        Check.same(3, "putNew(0, -999)", x.putNew(0, -999), Check.NONE);
        Check.same(3, "uses()", x.uses(), "2 1 0");
        Check.same(3, "steps()", x.steps(), 3);
        Check.refuses(3, "putNew(1, 1000)", x, ILLEGAL, () -> x.putNew(1, 1000));
        Check.refuses(3, "putNew(7, -1000)", x, ILLEGAL, () -> x.putNew(7, -1000));
        Twinindex full = Check.full();
        Check.refuses(3, "putNew(5, 1) to 24", full, STATE, () -> full.putNew(5, 1));
        Check.refuses(3, "putNew(5, 1000) to 24", full, ILLEGAL, () -> full.putNew(5, 1000));
        Check.same(3, "putNew(10, 7) to 24", full.putNew(10, 7), 1);
        Check.same(3, "aged(true)", full.aged(true), 10);
    }

    private static void replace() {
        Twinindex x = Check.with(1, 10, 2, 20);
        Check.same(4, "replace(1, 11)", x.replace(1, 11), 10);
        Check.same(4, "text()", x.text(), "{1=11, 2=20}");
        Check.same(4, "uses()", x.uses(), "2 1");
        Check.same(4, "steps()", x.steps(), 3);
        Check.same(4, "replace(2, 20)", x.replace(2, 20), 20);
        Check.same(4, "uses()", x.uses(), "1 2");
        Check.same(4, "steps()", x.steps(), 3);
        Check.asks(4, "replace(3, 1)", x, () -> x.replace(3, 1), Check.NONE);
        Check.refuses(4, "replace(1, 1000)", x, ILLEGAL, () -> x.replace(1, 1000));
        Check.refuses(4, "replace(3, -1000)", x, ILLEGAL, () -> x.replace(3, -1000));
        Twinindex full = Check.full();
        Check.asks(4, "replace(5, 1) of 24", full, () -> full.replace(5, 1), Check.NONE);
    }

    private static void replaceIf() {
        Twinindex x = Check.with(1, 10, 2, 20);
        Check.same(5, "replaceIf(1, 10, 11)", x.replaceIf(1, 10, 11), true);
        Check.same(5, "text()", x.text(), "{1=11, 2=20}");
        Check.same(5, "uses()", x.uses(), "2 1");
        Check.same(5, "steps()", x.steps(), 3);
        Check.same(5, "replaceIf(2, 20, 20)", x.replaceIf(2, 20, 20), true);
        Check.same(5, "uses()", x.uses(), "1 2");
        Check.same(5, "steps()", x.steps(), 3);
        Check.asks(5, "replaceIf(1, 10, 12)", x, () -> x.replaceIf(1, 10, 12), false);
        Check.asks(5, "replaceIf(3, -1000, 1)", x, () -> x.replaceIf(3, Check.NONE, 1), false);
        Check.asks(5, "replaceIf(1, greatest, 1)", x, () -> x.replaceIf(1, Check.GREATEST, 1), false);
        Check.refuses(5, "replaceIf(1, 11, 1000)", x, ILLEGAL, () -> x.replaceIf(1, 11, 1000));
        Check.refuses(5, "replaceIf(3, 0, -1000)", x, ILLEGAL, () -> x.replaceIf(3, 0, -1000));
    }

    private static void remove() {
        Twinindex x = Check.with(3, 30, 1, 10, 2, 20);
        Check.same(6, "remove(1)", x.remove(1), 10);
        Check.same(6, "text()", x.text(), "{2=20, 3=30}");
        Check.same(6, "uses()", x.uses(), "3 2");
        Check.same(6, "steps()", x.steps(), 4);
        Check.asks(6, "remove(1) again", x, () -> x.remove(1), Check.NONE);
        Twinindex full = Check.full();
        full.remove(10);
        Check.same(6, "put(5, 1) after remove(10) of 24", full.put(5, 1), Check.NONE);
    }

    private static void removeIf() {
        Twinindex x = Check.with(1, 10, 2, 20);
        Check.asks(7, "removeIf(1, 20)", x, () -> x.removeIf(1, 20), false);
        Check.asks(7, "removeIf(3, -1000)", x, () -> x.removeIf(3, Check.NONE), false);
        Check.asks(7, "removeIf(3, 0)", x, () -> x.removeIf(3, 0), false);
        Check.same(7, "removeIf(1, 10)", x.removeIf(1, 10), true);
        Check.same(7, "text()", x.text(), "{2=20}");
        Check.same(7, "uses()", x.uses(), "2");
        Check.same(7, "steps()", x.steps(), 3);
    }

    private static void clear() {
        Twinindex x = Check.with(3, 30, 1, 10, 2, 20);
        Check.same(8, "clear()", x.clear(), 3);
        Check.same(8, "text()", x.text(), "{}");
        Check.same(8, "uses()", x.uses(), "");
        Check.same(8, "steps()", x.steps(), 4);
        Check.asks(8, "clear() of none", x, x::clear, 0);
        Check.same(8, "undo()", x.undo(), 3);
        Check.same(8, "uses(), as they went BY KEYS", x.uses(), "3 2 1");
        Twinindex ends = Check.with(Check.LEAST, 1, Check.GREATEST, 2);
        Check.same(8, "clear() of the least and the greatest", ends.clear(), 2);
        Check.same(8, "clear() of 24", Check.full().clear(), 24);
    }

    private static void get() {
        Twinindex x = Check.with(1, 10, 2, 20, 3, 30);
        Check.same(9, "get(1)", x.get(1), 10);
        Check.same(9, "uses()", x.uses(), "2 3 1");
        Check.same(9, "get(1)", x.get(1), 10);
        Check.same(9, "uses()", x.uses(), "2 3 1");
        Check.same(9, "get(3)", x.get(3), 30);
        Check.same(9, "uses()", x.uses(), "2 1 3");
        Check.same(9, "steps()", x.steps(), 3);
        Check.asks(9, "get(4)", x, () -> x.get(4), Check.NONE);
    }

    private static void getOr() {
        Twinindex x = Check.with(1, 10, 2, 20);
        Check.same(10, "getOr(1, 5)", x.getOr(1, 5), 10);
        Check.same(10, "uses()", x.uses(), "2 1");
        Check.same(10, "steps()", x.steps(), 2);
        Check.asks(10, "getOr(4, greatest)", x, () -> x.getOr(4, Check.GREATEST), Check.GREATEST);
        Check.asks(10, "getOr(4, 10)", x, () -> x.getOr(4, 10), 10);
        Check.asks(10, "getOr(4, least)", x, () -> x.getOr(4, Check.LEAST), Check.LEAST);
    }

    private static void look() {
        Twinindex x = Check.with(1, 10, 2, 0, Check.GREATEST, -999);
        Check.asks(11, "look(1)", x, () -> x.look(1), 10);
        Check.asks(11, "look(2)", x, () -> x.look(2), 0);
        Check.asks(11, "look(greatest)", x, () -> x.look(Check.GREATEST), -999);
        Check.asks(11, "look(0)", x, () -> x.look(0), Check.NONE);
    }

    private static void has() {
        Twinindex x = Check.with(1, 10, Check.LEAST, 20);
        Check.asks(12, "has(1)", x, () -> x.has(1), true);
        Check.asks(12, "has(least)", x, () -> x.has(Check.LEAST), true);
        Check.asks(12, "has(0)", x, () -> x.has(0), false);
        Check.asks(12, "has(10)", x, () -> x.has(10), false);
        Check.asks(12, "has(0) of none", new Twinindex(), () -> new Twinindex().has(0), false);
    }

    private static void hasValue() {
        Twinindex x = Check.with(1, 10, 2, -20, 3, 10);
        Check.asks(13, "hasValue(10)", x, () -> x.hasValue(10), true);
        Check.asks(13, "hasValue(-20)", x, () -> x.hasValue(-20), true);
        Check.asks(13, "hasValue(1)", x, () -> x.hasValue(1), false);
        Check.asks(13, "hasValue(0)", x, () -> x.hasValue(0), false);
        Check.asks(13, "hasValue(-1000)", x, () -> x.hasValue(Check.NONE), false);
        x.remove(2);
        Check.same(13, "hasValue(-20) after it went", x.hasValue(-20), false);
        x.remove(1);
        Check.same(13, "hasValue(10) of the other one", x.hasValue(10), true);
    }

    private static void size() {
        Twinindex x = new Twinindex();
        Check.asks(14, "size()", x, x::size, 0);
        x.put(1, 1);
        x.put(2, 1);
        x.put(1, 2);
        Check.asks(14, "size()", x, x::size, 2);
        x.remove(1);
        Check.asks(14, "size()", x, x::size, 1);
        Check.same(14, "size() of 24", Check.full().size(), 24);
    }
}
