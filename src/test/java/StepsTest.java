/** Promises 41 to 47: STEPS and the COPY. */
public final class StepsTest {
    public static void main(String[] args) {
        undo();
        undoOfEachKind();
        undoIsUse();
        undoTwelve();
        undoOfLargeSteps();
        undoAfterManyLargeSteps();
        steps();
        stepsOfQuestions();
        forget();
        copy();
        isCopy();
        apart();
        back();
        backOfAll();
        Check.end("StepsTest");
    }

    private static void undo() {
        Twinindex x = Check.with(1, 10, 2, 20);
        x.put(1, 11);
        x.remove(2);
        Check.same(41, "undo() of remove()", x.undo(), 1);
        Check.same(41, "text()", x.text(), "{1=11, 2=20}");
        Check.same(41, "steps()", x.steps(), 3);
        Check.same(41, "undo() of put()", x.undo(), 1);
        Check.same(41, "text()", x.text(), "{1=10, 2=20}");
        x.undo();
        Check.same(41, "undo() of the first", x.undo(), 1);
        Check.same(41, "text()", x.text(), "{}");
        Check.asks(41, "undo() of none", x, x::undo, Check.REFUSED);
    }

    private static void undoOfEachKind() {
        Twinindex x = Check.with(1, 10, 2, 20, 3, 30);
        String text = x.text();
        x.putNew(4, 4);
        x.replace(1, 1);
        x.replaceIf(2, 20, 2);
        x.removeIf(3, 30);
        x.poll(true);
        x.rangePut(0, 9, 5, 5);
        x.rangePoll(0, 9, false);
        x.dropAged();
        Check.same(41, "steps()", x.steps(), 11);
        for (int step = 0; step < 8; step++) {
            Check.same(41, "undo()", x.undo(), 1);
        }
        Check.same(41, "text()", x.text(), text);
    }

    private static void undoIsUse() {
        Twinindex x = Check.with(1, 10, 2, 20, 3, 30);
        x.put(1, 11);
        x.get(2);
        Check.same(41, "uses()", x.uses(), "3 1 2");
        x.undo();
        Check.same(41, "uses() after a VALUE came back", x.uses(), "3 2 1");
        x.remove(3);
        x.undo();
        Check.same(41, "uses() after a PAIR came back", x.uses(), "2 1 3");
        x.put(4, 40);
        x.get(2);
        x.undo();
        Check.same(41, "uses() after a PAIR went again", x.uses(), "1 3 2");
    }

    private static void undoTwelve() {
        Twinindex x = new Twinindex();
        for (int key = 1; key <= 15; key++) {
            x.put(key, key);
        }
        x.keep(3);
        Check.same(41, "undo() of keep()", x.undo(), 12);
        for (int step = 0; step < 11; step++) {
            Check.same(41, "undo()", x.undo(), 1);
        }
        Check.same(41, "undo() of the 13th last", x.undo(), Check.REFUSED);
        Check.same(41, "keys(false)", x.keys(false), "1 2 3 4");
    }

    /** A STEP of many KEYS is kept, and falls out, whole. */
    private static void undoOfLargeSteps() {
        Twinindex x = Check.full();
        x.clear();
        x.undo();
        x.clear();
        for (int key = 1; key <= 11; key++) {
            x.put(key, key);
        }
        Check.same(41, "steps()", x.steps(), 12);
        for (int key = 11; key >= 1; key--) {
            Check.same(41, "undo()", x.undo(), 1);
        }
        Check.same(41, "undo() of clear()", x.undo(), 24);
        Check.same(41, "text()", x.text(), Check.full().text());
        Check.same(41, "undo()", x.undo(), Check.REFUSED);
        x.clear();
        for (int key = 1; key <= 12; key++) {
            x.put(key, key);
        }
        for (int key = 12; key >= 1; key--) {
            Check.same(41, "undo()", x.undo(), 1);
        }
        Check.same(41, "undo() of clear(), which is kept no more", x.undo(), Check.REFUSED);
        Check.same(41, "text()", x.text(), "{}");
    }

    /** Far more is changed than 12 STEPS keep: what falls out, or is forgotten, leaves room for the next. */
    private static void undoAfterManyLargeSteps() {
        Twinindex x = Check.full();
        String all = x.text();
        x.copy();
        for (int time = 1; time <= 100; time++) {
            Check.same(41, "clear()", x.clear(), 24);
            Check.same(41, "back()", x.back(), 24);
            if (time < 50 && time % 6 == 0) {
                Check.same(41, "forget()", x.forget(), 12);
            }
        }
        for (int step = 1; step <= 12; step++) {
            Check.same(41, "undo()", x.undo(), 24);
            Check.same(41, "text()", x.text(), step % 2 == 0 ? all : "{}");
        }
        Check.same(41, "undo()", x.undo(), Check.REFUSED);
    }

    private static void steps() {
        Twinindex x = new Twinindex();
        Check.asks(42, "steps()", x, x::steps, 0);
        for (int key = 1; key <= 13; key++) {
            x.put(key, 0);
            Check.same(42, "steps()", x.steps(), Math.min(key, 12));
        }
        x.undo();
        Check.same(42, "steps() after undo()", x.steps(), 11);
        x.clear();
        Check.same(42, "steps() after clear()", x.steps(), 12);
        x.back();
        Check.same(42, "steps() after back() of nothing", x.steps(), 12);
        x.undo();
        Check.same(42, "steps()", x.steps(), 11);
    }

    private static void stepsOfQuestions() {
        Twinindex x = Check.with(1, 10, 2, 20);
        x.put(1, 10);
        x.putNew(1, 5);
        x.replace(2, 20);
        x.replaceIf(2, 20, 20);
        x.get(1);
        x.getOr(2, 0);
        x.next(0, 1);
        x.page(0);
        x.copy();
        x.back();
        x.knock();
        x.keep(2);
        x.rangeClear(5, 9);
        x.remove(3);
        Check.same(42, "steps() of calls that are none", x.steps(), 2);
    }

    private static void forget() {
        Twinindex x = Check.with(1, 10, 2, 20);
        Check.same(43, "forget()", x.forget(), 2);
        Check.same(43, "steps()", x.steps(), 0);
        Check.same(43, "text()", x.text(), "{1=10, 2=20}");
        Check.asks(43, "undo() after forget()", x, x::undo, Check.REFUSED);
        Check.asks(43, "forget() of none", x, x::forget, 0);
        x.put(1, 11);
        Check.same(43, "undo() of a STEP after forget()", x.undo(), 1);
        Check.same(43, "text()", x.text(), "{1=10, 2=20}");
        Twinindex full = Check.full();
        Check.same(43, "forget() of 12", full.forget(), 12);
    }

    private static void copy() {
        Twinindex x = Check.with(1, 10, 2, 20);
        Check.same(44, "copy()", x.copy(), 2);
        Check.same(44, "house(2)", x.house(2), 2);
        x.put(1, 11);
        x.put(3, 30);
        Check.same(44, "house(2) after changes", x.house(2), 2);
        Check.same(44, "apart()", x.apart(), 2);
        Check.same(44, "copy()", x.copy(), 3);
        Check.same(44, "apart()", x.apart(), 0);
        Check.same(44, "steps()", x.steps(), 4);
        x.clear();
        Check.same(44, "copy() of none", x.copy(), 0);
        Check.same(44, "copy() of 24", Check.full().copy(), 24);
    }

    private static void isCopy() {
        Twinindex x = Check.with(1, 10, 2, 20);
        Check.asks(45, "isCopy()", x, x::isCopy, false);
        x.copy();
        Check.asks(45, "isCopy()", x, x::isCopy, true);
        x.get(1);
        Check.asks(45, "isCopy() after a USE", x, x::isCopy, true);
        x.put(1, 11);
        Check.asks(45, "isCopy() with another VALUE", x, x::isCopy, false);
        x.put(1, 10);
        Check.asks(45, "isCopy()", x, x::isCopy, true);
        x.remove(1);
        Check.asks(45, "isCopy() without one", x, x::isCopy, false);
        x.put(3, 10);
        Check.asks(45, "isCopy() with another KEY", x, x::isCopy, false);
    }

    private static void apart() {
        Twinindex x = Check.with(1, 10, 2, 20, 3, 30);
        Check.asks(46, "apart() of an empty COPY", x, x::apart, 3);
        x.copy();
        Check.asks(46, "apart()", x, x::apart, 0);
        x.put(1, 11);
        x.remove(2);
        x.put(Check.GREATEST, 0);
        x.put(Check.LEAST, 0);
        Check.asks(46, "apart()", x, x::apart, 4);
        x.clear();
        Check.asks(46, "apart() of no PAIRS", x, x::apart, 3);
        Twinindex full = Check.full();
        full.copy();
        full.clear();
        for (int key = 1; key <= 24; key++) {
            full.put(-key, 0);
        }
        Check.asks(46, "apart() of all", full, full::apart, 48);
    }

    private static void back() {
        Twinindex x = Check.with(1, 10, 2, 20, 3, 30, 4, 40);
        x.copy();
        x.clear();
        x.put(9, 90);
        x.put(3, 33);
        x.put(2, 20);
        x.put(7, 70);
        x.put(4, 44);
        Check.same(47, "back()", x.back(), 5);
        Check.same(47, "text()", x.text(), "{1=10, 2=20, 3=30, 4=40}");
        Check.same(47, "uses()", x.uses(), "2 1 3 4");
        Check.same(47, "steps()", x.steps(), 11);
        Check.same(47, "isCopy()", x.isCopy(), true);
        Check.asks(47, "back() again", x, x::back, 0);
        Check.same(47, "undo()", x.undo(), 5);
        Check.same(47, "text()", x.text(), "{2=20, 3=33, 4=44, 7=70, 9=90}");
        Check.same(47, "uses(), the last that was done first", x.uses(), "2 4 3 9 7");
    }

    private static void backOfAll() {
        Twinindex x = Check.full();
        String all = x.text();
        x.copy();
        x.clear();
        for (int key = 1; key <= 24; key++) {
            x.put(-key, key);
        }
        String others = x.text();
        Check.same(47, "back() of 48 KEYS", x.back(), 48);
        Check.same(47, "text()", x.text(), all);
        Check.same(47, "undo() of 48 KEYS", x.undo(), 48);
        Check.same(47, "text()", x.text(), others);
        Twinindex none = Check.with(1, 1, 2, 2);
        Check.same(47, "back() to an empty COPY", none.back(), 2);
        Check.same(47, "text()", none.text(), "{}");
        Check.same(47, "undo()", none.undo(), 2);
        Check.same(47, "uses()", none.uses(), "2 1");
    }
}
