/** Promises 33 to 37: the PAIRS BY USE. */
public final class UseTest {
    private static final Class<?> ILLEGAL = IllegalArgumentException.class;
    private static final Class<?> STATE = IllegalStateException.class;

    public static void main(String[] args) {
        aged();
        ageOf();
        dropAged();
        keep();
        keepOfMany();
        uses();
        Check.end("UseTest");
    }

    private static void aged() {
        Twinindex x = Check.with(2, 0, 3, 0, 1, 0);
        Check.asks(33, "aged(false)", x, () -> x.aged(false), 2);
        Check.asks(33, "aged(true)", x, () -> x.aged(true), 1);
        x.get(2);
        Check.asks(33, "aged(false)", x, () -> x.aged(false), 3);
        Check.asks(33, "aged(true)", x, () -> x.aged(true), 2);
        Twinindex ends = Check.with(Check.GREATEST, 0, 0, 0, Check.LEAST, 0);
        Check.asks(33, "aged(false)", ends, () -> ends.aged(false), Check.GREATEST);
        Check.asks(33, "aged(true)", ends, () -> ends.aged(true), Check.LEAST);
        Twinindex none = new Twinindex();
        Check.refuses(33, "aged(false) of none", none, STATE, () -> none.aged(false));
        Check.refuses(33, "aged(true) of none", none, STATE, () -> none.aged(true));
    }

    private static void ageOf() {
        Twinindex x = Check.with(2, 0, 3, 0, 1, 0);
        Check.asks(34, "ageOf(2)", x, () -> x.ageOf(2), 2);
        Check.asks(34, "ageOf(3)", x, () -> x.ageOf(3), 1);
        Check.asks(34, "ageOf(1)", x, () -> x.ageOf(1), 0);
        Check.asks(34, "ageOf(4)", x, () -> x.ageOf(4), Check.NONE);
        Check.asks(34, "ageOf(0)", x, () -> x.ageOf(0), Check.NONE);
        Check.same(34, "ageOf(10) of 24", Check.full().ageOf(10), 23);
    }

    private static void dropAged() {
        Twinindex x = Check.with(2, 0, 3, 0, 1, 0);
        Check.same(35, "dropAged()", x.dropAged(), 2);
        Check.same(35, "text()", x.text(), "{1=0, 3=0}");
        Check.same(35, "uses()", x.uses(), "3 1");
        Check.same(35, "steps()", x.steps(), 4);
        x.clear();
        Check.refuses(35, "dropAged() of none", x, STATE, x::dropAged);
    }

    private static void keep() {
        Twinindex x = Check.with(2, 20, 3, 30, 1, 10, 4, 40);
        Check.asks(36, "keep(4)", x, () -> x.keep(4), 0);
        Check.asks(36, "keep(greatest)", x, () -> x.keep(Check.GREATEST), 0);
        Check.refuses(36, "keep(-1)", x, ILLEGAL, () -> x.keep(-1));
        Check.refuses(36, "keep(least)", x, ILLEGAL, () -> x.keep(Check.LEAST));
        Check.same(36, "keep(1)", x.keep(1), 3);
        Check.same(36, "text()", x.text(), "{4=40}");
        Check.same(36, "steps()", x.steps(), 5);
        Check.same(36, "undo()", x.undo(), 3);
        Check.same(36, "uses(), the last that went first", x.uses(), "4 1 3 2");
    }

    private static void keepOfMany() {
        Twinindex x = Check.full();
        Check.same(36, "keep(0) of 24", x.keep(0), 24);
        Check.same(36, "size()", x.size(), 0);
        Check.asks(36, "keep(0) of none", x, () -> x.keep(0), 0);
        Check.same(36, "undo()", x.undo(), 24);
        Check.same(36, "keep(23)", x.keep(23), 1);
        Check.same(36, "has(240)", x.has(240), false);
    }

    private static void uses() {
        Twinindex x = Check.with(2, 0, Check.LEAST, 0, 1, 0);
        Check.asks(37, "uses()", x, x::uses, "2 -2147483648 1");
        x.put(2, 5);
        x.look(1);
        x.has(1);
        x.nearValue(1, 1);
        Check.asks(37, "uses()", x, x::uses, "-2147483648 1 2");
        Check.same(37, "uses() of none", new Twinindex().uses(), "");
    }
}
