/** The edges of promises 33 to 37, a test each: the PAIRS BY USE. */
public final class EdgesOfUseTest {
    private EdgesOfUseTest() {
    }

    public static void main(String[] args) {
        Run.tests(EdgesOfUseTest.class, 33, 37);
    }

    // ---- 33: aged

    private static void promise33ThrowsIfThereIsNone() {
        Run.of().leaves("aged(false)", Run.STATE).leaves("aged(true)", Run.STATE);
        Run.four().then("clear()").leaves("aged(false)", Run.STATE).leaves("aged(true)", Run.STATE);
    }

    private static void promise33OfOnePair() {
        Run.of("put(7, 0)").leaves("aged(false)", 7).leaves("aged(true)", 7);
    }

    private static void promise33Of24() {
        Run.full().leaves("aged(false)", 10).leaves("aged(true)", 240)
                .then("get(10)").leaves("aged(false)", 20).leaves("aged(true)", 10);
    }

    private static void promise33KeysAtTheEndsOfTheInts() {
        Run.of("put(least, 0)", "put(0, 0)", "put(greatest, 0)")
                .leaves("aged(false)", Run.LEAST).leaves("aged(true)", Run.GREATEST)
                .then("get(least)").leaves("aged(false)", 0).leaves("aged(true)", Run.LEAST);
    }

    // ---- 34: ageOf

    private static void promise34ReturnsNoneIfItIsNotThere() {
        Run.of().leaves("ageOf(0)", Run.NONE);
        Run.four().leaves("ageOf(15)", Run.NONE).leaves("ageOf(0)", Run.NONE).leaves("ageOf(least)", Run.NONE)
                .leaves("ageOf(greatest)", Run.NONE).then("remove(30)").leaves("ageOf(30)", Run.NONE);
    }

    private static void promise34TheFirstAndTheLastOne() {
        Run.four().leaves("ageOf(30)", 3).leaves("ageOf(10)", 2).leaves("ageOf(40)", 1).leaves("ageOf(20)", 0);
        Run.of("put(7, 0)").leaves("ageOf(7)", 0);
        Run.full().leaves("ageOf(10)", 23).leaves("ageOf(240)", 0);
    }

    private static void promise34KeysAtTheEndsOfTheInts() {
        Run.ends().leaves("ageOf(greatest)", 3).leaves("ageOf(least)", 1);
    }

    // ---- 35: dropAged

    private static void promise35ThrowsIfThereIsNone() {
        Run.of().leaves("dropAged()", Run.STATE);
        Run.of("put(7, 0)").gives("dropAged()", 7).leaves("dropAged()", Run.STATE).steps(2);
    }

    private static void promise35TheLastPairGoes() {
        Run.of("put(7, 0)").gives("dropAged()", 7).text("{}").uses("").steps(2);
    }

    private static void promise35Of24() {
        Run.full().then("get(10)").gives("dropAged()", 20).gives("size()", 23).gives("put(5, 0)", Run.NONE)
                .gives("aged(false)", 30);
    }

    private static void promise35KeysAtTheEndsOfTheInts() {
        Run.of("put(least, 1)", "put(greatest, 2)").gives("dropAged()", Run.LEAST).text("{2147483647=2}")
                .gives("dropAged()", Run.GREATEST).text("{}").gives("undo()", 1).text("{2147483647=2}");
    }

    // ---- 36: keep

    private static void promise36ManyTooSmall() {
        Run.four().leaves("keep(-1)", Run.ILLEGAL).leaves("keep(least)", Run.ILLEGAL);
        Run.of().leaves("keep(-1)", Run.ILLEGAL);
    }

    private static void promise36OfNoPairsIsNoStep() {
        Run.of().leaves("keep(0)", 0).leaves("keep(1)", 0).leaves("keep(greatest)", 0);
    }

    private static void promise36AsManyAsThereAreIsNoStep() {
        Run.four().leaves("keep(4)", 0).leaves("keep(5)", 0).leaves("keep(24)", 0).leaves("keep(25)", 0)
                .leaves("keep(greatest)", 0).steps(4);
        Run.full().leaves("keep(24)", 0);
    }

    private static void promise36OneLess() {
        Run.four().gives("keep(3)", 1).uses("10 40 20").steps(5);
        Run.full().gives("keep(23)", 1).gives("has(10)", false).gives("size()", 23);
    }

    private static void promise36None() {
        Run.four().gives("keep(0)", 4).text("{}").uses("").steps(5);
        Run.full().gives("keep(0)", 24).text("{}").gives("undo()", 24).text(Run.full().text());
    }

    private static void promise36OneStepThatGoesByUse() {
        Run.four().gives("keep(1)", 3).uses("20").text("{20=2}").steps(5)
                .gives("undo()", 3).steps(4).uses("20 40 10 30");
    }

    private static void promise36KeysAtTheEndsOfTheInts() {
        Run.ends().gives("keep(1)", 3).text("{-1=4}").gives("undo()", 3).uses("-1 -2147483648 0 2147483647");
    }

    // ---- 37: uses

    private static void promise37EmptyWithout() {
        Run.of().leaves("uses()", "");
        Run.four().then("clear()").leaves("uses()", "");
    }

    private static void promise37OfOnePair() {
        Run.of("put(-7, 0)").leaves("uses()", "-7");
    }

    private static void promise37Of24() {
        Run.full().then("get(10)").leaves("uses()",
                "20 30 40 50 60 70 80 90 100 110 120 130 140 150 160 170 180 190 200 210 220 230 240 10");
    }

    private static void promise37KeysAtTheEndsOfTheInts() {
        Run.ends().leaves("uses()", "2147483647 0 -2147483648 -1");
    }
}
