/** Promises 23 to 32: RANGES. */
public final class RangesTest {
    private static final Class<?> ILLEGAL = IllegalArgumentException.class;
    private static final Class<?> STATE = IllegalStateException.class;

    public static void main(String[] args) {
        inRange();
        rangeEnd();
        rangeNear();
        rangeNearRefuses();
        rangePut();
        rangePutRefuses();
        rangePoll();
        rangeClear();
        rangeSum();
        rangeText();
        rangeUse();
        rangeAge();
        Check.end("RangesTest");
    }

    /** KEYS 10, 20, 30, 40, with VALUES 1 to 4; BY USE 30, 10, 40, 20. */
    private static Twinindex four() {
        return Check.with(30, 3, 10, 1, 40, 4, 20, 2);
    }

    private static void inRange() {
        Twinindex x = four();
        Check.asks(23, "inRange(10, 40)", x, () -> x.inRange(10, 40), 4);
        Check.asks(23, "inRange(11, 39)", x, () -> x.inRange(11, 39), 2);
        Check.asks(23, "inRange(20, 20)", x, () -> x.inRange(20, 20), 1);
        Check.asks(23, "inRange(21, 29)", x, () -> x.inRange(21, 29), 0);
        Check.asks(23, "inRange(41, 50)", x, () -> x.inRange(41, 50), 0);
        Check.asks(23, "inRange(least, greatest)", x, () -> x.inRange(Check.LEAST, Check.GREATEST), 4);
        Check.asks(23, "inRange(21, 20)", x, () -> x.inRange(21, 20), Check.REFUSED);
        Check.asks(23, "inRange(greatest, least)", x,
                () -> x.inRange(Check.GREATEST, Check.LEAST), Check.REFUSED);
        Twinindex ends = Check.with(Check.LEAST, 0, Check.GREATEST, 0);
        Check.same(23, "inRange(least, least)", ends.inRange(Check.LEAST, Check.LEAST), 1);
        Check.same(23, "inRange(greatest, greatest)", ends.inRange(Check.GREATEST, Check.GREATEST), 1);
    }

    private static void rangeEnd() {
        Twinindex x = four();
        Check.asks(24, "rangeEnd(10, 40, false)", x, () -> x.rangeEnd(10, 40, false), 10);
        Check.asks(24, "rangeEnd(10, 40, true)", x, () -> x.rangeEnd(10, 40, true), 40);
        Check.asks(24, "rangeEnd(11, 39, false)", x, () -> x.rangeEnd(11, 39, false), 20);
        Check.asks(24, "rangeEnd(11, 39, true)", x, () -> x.rangeEnd(11, 39, true), 30);
        Check.asks(24, "rangeEnd(20, 20, false)", x, () -> x.rangeEnd(20, 20, false), 20);
        Check.asks(24, "rangeEnd(20, 20, true)", x, () -> x.rangeEnd(20, 20, true), 20);
        Check.refuses(24, "rangeEnd(21, 29, true)", x, STATE, () -> x.rangeEnd(21, 29, true));
        Check.refuses(24, "rangeEnd(21, 29, false)", x, STATE, () -> x.rangeEnd(21, 29, false));
        Check.refuses(24, "rangeEnd(41, greatest, false)", x, STATE,
                () -> x.rangeEnd(41, Check.GREATEST, false));
        Check.refuses(24, "rangeEnd(30, 10, true)", x, ILLEGAL, () -> x.rangeEnd(30, 10, true));
        Twinindex none = new Twinindex();
        Check.refuses(24, "rangeEnd(1, 0, true) of none", none, ILLEGAL, () -> none.rangeEnd(1, 0, true));
    }

    private static void rangeNear() {
        Twinindex x = four();
        Check.asks(25, "rangeNear(15, 35, 30, 0)", x, () -> x.rangeNear(15, 35, 30, 0), 20);
        Check.asks(25, "rangeNear(15, 35, 30, 1)", x, () -> x.rangeNear(15, 35, 30, 1), 30);
        Check.asks(25, "rangeNear(15, 35, 20, 2)", x, () -> x.rangeNear(15, 35, 20, 2), 20);
        Check.asks(25, "rangeNear(15, 35, 20, 3)", x, () -> x.rangeNear(15, 35, 20, 3), 30);
        Check.asks(25, "rangeNear(20, 20, 20, 1)", x, () -> x.rangeNear(20, 20, 20, 1), 20);
        Check.asks(25, "rangeNear(20, 20, 30, 0)", x, () -> x.rangeNear(20, 20, 30, 0), 20);
        Check.asks(25, "rangeNear(15, 35, greatest, 0)", x,
                () -> x.rangeNear(15, 35, Check.GREATEST, 0), 30);
        Check.asks(25, "rangeNear(15, 35, 100, 1)", x, () -> x.rangeNear(15, 35, 100, 1), 30);
        Check.asks(25, "rangeNear(15, 35, least, 2)", x,
                () -> x.rangeNear(15, 35, Check.LEAST, 2), 20);
        Check.asks(25, "rangeNear(15, 35, 10, 3)", x, () -> x.rangeNear(15, 35, 10, 3), 20);
    }

    private static void rangeNearRefuses() {
        Twinindex x = four();
        Check.refuses(25, "rangeNear(15, 35, 20, 0)", x, STATE, () -> x.rangeNear(15, 35, 20, 0));
        Check.refuses(25, "rangeNear(15, 35, 19, 1)", x, STATE, () -> x.rangeNear(15, 35, 19, 1));
        Check.refuses(25, "rangeNear(15, 35, 31, 2)", x, STATE, () -> x.rangeNear(15, 35, 31, 2));
        Check.refuses(25, "rangeNear(15, 35, 30, 3)", x, STATE, () -> x.rangeNear(15, 35, 30, 3));
        Check.refuses(25, "rangeNear(21, 29, 25, 1)", x, STATE, () -> x.rangeNear(21, 29, 25, 1));
        Check.refuses(25, "rangeNear(35, 15, 20, 1)", x, ILLEGAL, () -> x.rangeNear(35, 15, 20, 1));
        Check.refuses(25, "rangeNear(15, 35, 20, 4)", x, ILLEGAL, () -> x.rangeNear(15, 35, 20, 4));
        Check.refuses(25, "rangeNear(21, 29, 20, -1)", x, ILLEGAL, () -> x.rangeNear(21, 29, 20, -1));
    }

    private static void rangePut() {
        Twinindex x = four();
        Check.same(26, "rangePut(10, 20, 10, 5)", x.rangePut(10, 20, 10, 5), 1);
        Check.same(26, "rangePut(10, 20, 20, 6)", x.rangePut(10, 20, 20, 6), 2);
        Check.same(26, "rangePut(15, 15, 15, -999)", x.rangePut(15, 15, 15, -999), Check.NONE);
        Check.same(26, "text()", x.text(), "{10=5, 15=-999, 20=6, 30=3, 40=4}");
        Check.same(26, "uses()", x.uses(), "30 40 10 20 15");
        Check.same(26, "steps()", x.steps(), 7);
        Check.same(26, "rangePut(30, 30, 30, 3)", x.rangePut(30, 30, 30, 3), 3);
        Check.same(26, "uses()", x.uses(), "40 10 20 15 30");
        Check.same(26, "steps()", x.steps(), 7);
        Check.same(26, "rangePut(least, greatest, greatest, 0)",
                x.rangePut(Check.LEAST, Check.GREATEST, Check.GREATEST, 0), Check.NONE);
    }

    private static void rangePutRefuses() {
        Twinindex x = four();
        Check.asks(26, "rangePut(10, 20, 21, 1)", x, () -> x.rangePut(10, 20, 21, 1), Check.REFUSED);
        Check.asks(26, "rangePut(10, 20, 9, 1)", x, () -> x.rangePut(10, 20, 9, 1), Check.REFUSED);
        Check.asks(26, "rangePut(20, 10, 20, 1)", x, () -> x.rangePut(20, 10, 20, 1), Check.REFUSED);
        Check.asks(26, "rangePut(20, 10, 15, 1)", x, () -> x.rangePut(20, 10, 15, 1), Check.REFUSED);
        Check.refuses(26, "rangePut(10, 20, 15, 1000)", x, ILLEGAL, () -> x.rangePut(10, 20, 15, 1000));
        Check.refuses(26, "rangePut(20, 10, 5, -1000)", x, ILLEGAL, () -> x.rangePut(20, 10, 5, -1000));
        Twinindex full = Check.full();
        Check.refuses(26, "rangePut(1, 9, 5, 1) to 24", full, STATE, () -> full.rangePut(1, 9, 5, 1));
        Check.refuses(26, "rangePut(1, 9, 11, 1) to 24", full, STATE, () -> full.rangePut(1, 9, 11, 1));
        Check.refuses(26, "rangePut(9, 1, 5, 1) to 24", full, STATE, () -> full.rangePut(9, 1, 5, 1));
        Check.refuses(26, "rangePut(9, 1, 5, 1000) to 24", full, ILLEGAL,
                () -> full.rangePut(9, 1, 5, 1000));
        Check.asks(26, "rangePut(1, 9, 10, 7) to 24", full, () -> full.rangePut(1, 9, 10, 7), Check.REFUSED);
        Check.same(26, "rangePut(1, 10, 10, 7) to 24", full.rangePut(1, 10, 10, 7), 1);
    }

    private static void rangePoll() {
        Twinindex x = four();
        Check.same(27, "rangePoll(11, 40, false)", x.rangePoll(11, 40, false), 20);
        Check.same(27, "rangePoll(10, 39, true)", x.rangePoll(10, 39, true), 30);
        Check.same(27, "text()", x.text(), "{10=1, 40=4}");
        Check.same(27, "uses()", x.uses(), "10 40");
        Check.same(27, "steps()", x.steps(), 6);
        Check.same(27, "rangePoll(40, 40, false)", x.rangePoll(40, 40, false), 40);
        Check.same(27, "rangePoll(10, 10, true)", x.rangePoll(10, 10, true), 10);
        x.undo();
        x.undo();
        Check.refuses(27, "rangePoll(11, 39, false)", x, STATE, () -> x.rangePoll(11, 39, false));
        Check.refuses(27, "rangePoll(11, 39, true)", x, STATE, () -> x.rangePoll(11, 39, true));
        Check.refuses(27, "rangePoll(40, 10, true)", x, ILLEGAL, () -> x.rangePoll(40, 10, true));
        Check.refuses(27, "rangePoll(30, 20, true)", x, ILLEGAL, () -> x.rangePoll(30, 20, true));
    }

    private static void rangeClear() {
        Twinindex x = four();
        Check.asks(28, "rangeClear(21, 29)", x, () -> x.rangeClear(21, 29), 0);
        Check.asks(28, "rangeClear(29, 21)", x, () -> x.rangeClear(29, 21), Check.REFUSED);
        Check.asks(28, "rangeClear(40, 10)", x, () -> x.rangeClear(40, 10), Check.REFUSED);
        Check.same(28, "rangeClear(20, 20)", x.rangeClear(20, 20), 1);
        Check.same(28, "undo()", x.undo(), 1);
        Check.same(28, "rangeClear(20, 40)", x.rangeClear(20, 40), 3);
        Check.same(28, "text()", x.text(), "{10=1}");
        Check.same(28, "uses()", x.uses(), "10");
        Check.same(28, "steps()", x.steps(), 5);
        Check.same(28, "undo()", x.undo(), 3);
        Check.same(28, "uses(), as they went BY KEYS", x.uses(), "10 40 30 20");
    }

    private static void rangeSum() {
        Twinindex x = four();
        Check.asks(29, "rangeSum(10, 40)", x, () -> x.rangeSum(10, 40), 10);
        Check.asks(29, "rangeSum(11, 30)", x, () -> x.rangeSum(11, 30), 5);
        Check.asks(29, "rangeSum(21, 29)", x, () -> x.rangeSum(21, 29), 0);
        Check.asks(29, "rangeSum(40, 40)", x, () -> x.rangeSum(40, 40), 4);
        Check.refuses(29, "rangeSum(30, 10)", x, ILLEGAL, () -> x.rangeSum(30, 10));
        Twinindex low = Check.with(Check.LEAST, -999, Check.GREATEST, -999);
        Check.asks(29, "rangeSum(least, greatest)", low,
                () -> low.rangeSum(Check.LEAST, Check.GREATEST), -1998);
    }

    private static void rangeText() {
        Twinindex x = four();
        Check.asks(30, "rangeText(10, 40)", x, () -> x.rangeText(10, 40), "10=1 20=2 30=3 40=4");
        Check.asks(30, "rangeText(20, 39)", x, () -> x.rangeText(20, 39), "20=2 30=3");
        Check.asks(30, "rangeText(40, greatest)", x, () -> x.rangeText(40, Check.GREATEST), "40=4");
        Check.asks(30, "rangeText(21, 29)", x, () -> x.rangeText(21, 29), "");
        Check.asks(30, "rangeText(30, 30)", x, () -> x.rangeText(30, 30), "30=3");
        Check.refuses(30, "rangeText(1, 0)", x, ILLEGAL, () -> x.rangeText(1, 0));
    }

    private static void rangeUse() {
        Twinindex x = four();
        Check.asks(31, "rangeUse(10, 40)", x, () -> x.rangeUse(10, 40), "30 10 40 20");
        Check.asks(31, "rangeUse(10, 30)", x, () -> x.rangeUse(10, 30), "30 10 20");
        Check.asks(31, "rangeUse(31, 40)", x, () -> x.rangeUse(31, 40), "40");
        Check.asks(31, "rangeUse(21, 29)", x, () -> x.rangeUse(21, 29), "");
        Check.asks(31, "rangeUse(10, 10)", x, () -> x.rangeUse(10, 10), "10");
        Check.refuses(31, "rangeUse(40, 10)", x, ILLEGAL, () -> x.rangeUse(40, 10));
    }

    private static void rangeAge() {
        Twinindex x = four();
        Check.asks(32, "rangeAge(10, 40, false)", x, () -> x.rangeAge(10, 40, false), 30);
        Check.asks(32, "rangeAge(10, 40, true)", x, () -> x.rangeAge(10, 40, true), 20);
        Check.asks(32, "rangeAge(10, 20, false)", x, () -> x.rangeAge(10, 20, false), 10);
        Check.asks(32, "rangeAge(30, 40, true)", x, () -> x.rangeAge(30, 40, true), 40);
        Check.asks(32, "rangeAge(10, 10, true)", x, () -> x.rangeAge(10, 10, true), 10);
        Check.refuses(32, "rangeAge(21, 29, true)", x, STATE, () -> x.rangeAge(21, 29, true));
        Check.refuses(32, "rangeAge(21, 29, false)", x, STATE, () -> x.rangeAge(21, 29, false));
        Check.refuses(32, "rangeAge(40, 10, true)", x, ILLEGAL, () -> x.rangeAge(40, 10, true));
        Twinindex none = new Twinindex();
        Check.refuses(32, "rangeAge(1, 0, true) of none", none, ILLEGAL, () -> none.rangeAge(1, 0, true));
    }
}
