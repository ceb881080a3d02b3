/** Promises 38 to 40: PAGERS. */
public final class PagersTest {
    private static final Class<?> ILLEGAL = IllegalArgumentException.class;
    private static final Class<?> BOUNDS = IndexOutOfBoundsException.class;

    public static void main(String[] args) {
        page();
        next();
        nextAmongChanges();
        nextToTheEnds();
        ofPager();
        Check.end("PagersTest");
    }

    private static void page() {
        Twinindex x = Check.with(1, 0, 2, 0, 3, 0);
        Check.asks(38, "page(0)", x, () -> x.page(0), 0);
        x.next(0, 2);
        x.next(0, 2);
        x.next(1, 1);
        Check.same(38, "page(0)", x.page(0), 3);
        Check.same(38, "page(0)", x.page(0), 0);
        Check.same(38, "ofPager(0, 2)", x.ofPager(0, 2), 0);
        Check.same(38, "ofPager(0, 3)", x.ofPager(0, 3), 0);
        Check.same(38, "ofPager(1, 0)", x.ofPager(1, 0), 1);
        Check.same(38, "next(0, 1)", x.next(0, 1), "1");
        x.next(2, 24);
        Check.same(38, "page(2)", x.page(2), 3);
        Check.refuses(38, "page(-1)", x, BOUNDS, () -> x.page(-1));
        Check.refuses(38, "page(3)", x, BOUNDS, () -> x.page(3));
    }

    private static void next() {
        Twinindex x = Check.with(3, 0, 1, 0, 2, 0, 4, 0);
        String uses = x.uses();
        Check.same(39, "next(0, 1)", x.next(0, 1), "1");
        Check.same(39, "next(0, 2)", x.next(0, 2), "2 3");
        Check.same(39, "next(2, 3)", x.next(2, 3), "1 2 3");
        Check.same(39, "next(0, 24)", x.next(0, 24), "4");
        Check.asks(39, "next(0, 24) at the end", x, () -> x.next(0, 24), "");
        Check.same(39, "ofPager(0, 3)", x.ofPager(0, 3), 4);
        Check.same(39, "uses()", x.uses(), uses);
        Check.same(39, "steps()", x.steps(), 4);
        Check.refuses(39, "next(-1, 1)", x, BOUNDS, () -> x.next(-1, 1));
        Check.refuses(39, "next(3, 1)", x, BOUNDS, () -> x.next(3, 1));
        Check.refuses(39, "next(3, 0)", x, BOUNDS, () -> x.next(3, 0));
        Check.refuses(39, "next(1, 0)", x, ILLEGAL, () -> x.next(1, 0));
        Check.refuses(39, "next(1, 25)", x, ILLEGAL, () -> x.next(1, 25));
        Check.refuses(39, "next(1, least)", x, ILLEGAL, () -> x.next(1, Check.LEAST));
        Twinindex full = Check.full();
        Check.same(39, "next(1, 24) of 24", full.next(1, 24), full.keys(false));
    }

    private static void nextAmongChanges() {
        Twinindex x = Check.with(10, 0, 20, 0, 30, 0);
        Check.same(39, "next(0, 2)", x.next(0, 2), "10 20");
        x.put(15, 0);
        x.put(25, 0);
        x.remove(20);
        Check.same(39, "ofPager(0, 3)", x.ofPager(0, 3), 20);
        Check.same(39, "next(0, 1)", x.next(0, 1), "25");
        x.clear();
        Check.same(39, "next(0, 1) of none", x.next(0, 1), "");
        Check.same(39, "ofPager(0, 3)", x.ofPager(0, 3), 25);
        x.undo();
        Check.same(39, "next(0, 24)", x.next(0, 24), "30");
        x.put(40, 0);
        Check.same(39, "next(0, 1) goes on", x.next(0, 1), "40");
    }

    private static void nextToTheEnds() {
        Twinindex x = Check.with(Check.LEAST, 0, Check.GREATEST, 0);
        Check.same(39, "next(0, 1)", x.next(0, 1), "-2147483648");
        Check.same(39, "ofPager(0, 3)", x.ofPager(0, 3), Check.LEAST);
        Check.same(39, "ofPager(0, 1)", x.ofPager(0, 1), 1);
        Check.same(39, "next(0, 1)", x.next(0, 1), "2147483647");
        Check.same(39, "ofPager(0, 1)", x.ofPager(0, 1), 0);
        Check.same(39, "next(0, 1)", x.next(0, 1), "");
    }

    private static void ofPager() {
        Twinindex x = Check.with(-1, 0, 0, 0, 5, 0);
        Check.asks(40, "ofPager(1, 0)", x, () -> x.ofPager(1, 0), 0);
        Check.asks(40, "ofPager(1, 1)", x, () -> x.ofPager(1, 1), 3);
        Check.asks(40, "ofPager(1, 2)", x, () -> x.ofPager(1, 2), 0);
        Check.asks(40, "ofPager(1, 3)", x, () -> x.ofPager(1, 3), 0);
        x.next(1, 1);
        Check.asks(40, "ofPager(1, 3)", x, () -> x.ofPager(1, 3), -1);
        x.next(1, 1);
        Check.asks(40, "ofPager(1, 0)", x, () -> x.ofPager(1, 0), 2);
        Check.asks(40, "ofPager(1, 1)", x, () -> x.ofPager(1, 1), 1);
        Check.asks(40, "ofPager(1, 2) with MARK 0", x, () -> x.ofPager(1, 2), 1);
        Check.asks(40, "ofPager(1, 3)", x, () -> x.ofPager(1, 3), 0);
        Check.refuses(40, "ofPager(-1, 0)", x, BOUNDS, () -> x.ofPager(-1, 0));
        Check.refuses(40, "ofPager(3, 0)", x, BOUNDS, () -> x.ofPager(3, 0));
        Check.refuses(40, "ofPager(3, 4)", x, BOUNDS, () -> x.ofPager(3, 4));
        Check.refuses(40, "ofPager(1, -1)", x, ILLEGAL, () -> x.ofPager(1, -1));
        Check.refuses(40, "ofPager(1, 4)", x, ILLEGAL, () -> x.ofPager(1, 4));
    }
}
