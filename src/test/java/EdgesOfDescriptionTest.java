/** What the first lines of DOC.md, and its parts on sequences, STEPS and PAGERS, say of edges. */
public final class EdgesOfDescriptionTest {
    private static final String[] WITH_A_VALUE = {
        "put(10, V)", "put(15, V)", "putNew(10, V)", "putNew(15, V)", "replace(10, V)", "replace(15, V)",
        "replaceIf(10, 1, V)", "replaceIf(10, 2, V)", "replaceIf(15, 0, V)",
        "rangePut(10, 20, 10, V)", "rangePut(10, 20, 15, V)", "rangePut(10, 20, 25, V)", "rangePut(20, 10, 15, V)"
    };

    private EdgesOfDescriptionTest() {
    }

    public static void main(String[] args) {
        Run.tests(EdgesOfDescriptionTest.class, 0, 0);
    }

    // ---- KEYS, VALUES, NONE, REFUSED, exceptions

    private static void descriptionKeysAreAnyInts() {
        Run.of("put(0, 1)", "put(greatest, 2)", "put(-1, 3)", "put(least, 4)", "put(1, 5)",
                "put(2147483646, 6)", "put(-2147483647, 7)")
                .text("{-2147483648=4, -2147483647=7, -1=3, 0=1, 1=5, 2147483646=6, 2147483647=2}");
    }

    private static void descriptionKeysMayBeTheNumbersOfNoneAndRefused() {
        Run.of("put(-1000, 1)", "put(-9999, 2)")
                .gives("look(-1000)", 1)
                .gives("first(false)", -9999)
                .gives("first(true)", -1000)
                .gives("remove(-9999)", 2)
                .gives("undo()", 1)
                .text("{-9999=2, -1000=1}");
    }

    private static void descriptionValuesFromMinus999() {
        Run.of("put(10, 1)", "put(20, 2)")
                .gives("put(10, -999)", 1)
                .gives("putNew(11, -999)", Run.NONE)
                .gives("replace(20, -999)", 2)
                .gives("replaceIf(10, -999, -999)", true)
                .gives("rangePut(0, 9, 5, -999)", Run.NONE)
                .text("{5=-999, 10=-999, 11=-999, 20=-999}");
    }

    private static void descriptionValuesTo999() {
        Run.of("put(10, 1)", "put(20, 2)")
                .gives("put(10, 999)", 1)
                .gives("putNew(11, 999)", Run.NONE)
                .gives("replace(20, 999)", 2)
                .gives("replaceIf(10, 999, 999)", true)
                .gives("rangePut(0, 9, 5, 999)", Run.NONE)
                .text("{5=999, 10=999, 11=999, 20=999}");
    }

    private static void descriptionValuesTooSmall() {
        for (String call : WITH_A_VALUE) {
            Run.four().leaves(call.replace("V", "-1000"), Run.ILLEGAL);
            Run.four().leaves(call.replace("V", "least"), Run.ILLEGAL);
        }
    }

    private static void descriptionValuesTooLarge() {
        for (String call : WITH_A_VALUE) {
            Run.four().leaves(call.replace("V", "1000"), Run.ILLEGAL);
            Run.four().leaves(call.replace("V", "greatest"), Run.ILLEGAL);
        }
    }

    private static void descriptionNoneIsNoValueOfAPair() {
        Run.four()
                .leaves("hasValue(-1000)", false)
                .leaves("removeIf(15, -1000)", false)
                .leaves("removeIf(10, -1000)", false)
                .leaves("replaceIf(15, -1000, 1)", false)
                .leaves("replaceIf(10, -1000, 1)", false);
    }

    private static void descriptionNoneIsMinus1000() {
        Run.of().leaves("look(0)", -1000).leaves("nearValue(0, 1)", -1000).leaves("ageOf(0)", -1000)
                .leaves("get(0)", -1000).leaves("remove(0)", -1000).leaves("replace(0, 0)", -1000)
                .gives("put(0, 0)", -1000).gives("putNew(1, 0)", -1000).gives("rangePut(2, 2, 2, 0)", -1000);
    }

    private static void descriptionRefusedIsMinus9999AndChangesNothing() {
        Run.four()
                .leaves("inRange(20, 19)", -9999)
                .leaves("rangePut(20, 19, 20, 5)", -9999)
                .leaves("rangePut(11, 19, 10, 5)", -9999)
                .leaves("rangeClear(20, 19)", -9999);
        Run.four().then("forget()").leaves("undo()", -9999);
    }

    private static void descriptionTheFirstExceptionIsThrown() {
        Run.full()
                .leaves("put(5, 1000)", Run.ILLEGAL)
                .leaves("putNew(5, -1000)", Run.ILLEGAL)
                .leaves("rangePut(0, 9, 5, 1000)", Run.ILLEGAL);
        Run.of()
                .leaves("near(0, 4)", Run.ILLEGAL)
                .leaves("rangeEnd(1, 0, false)", Run.ILLEGAL)
                .leaves("rangeNear(1, 0, 0, 0)", Run.ILLEGAL)
                .leaves("rangeNear(0, 1, 0, -1)", Run.ILLEGAL)
                .leaves("rangePoll(1, 0, false)", Run.ILLEGAL)
                .leaves("rangeAge(1, 0, true)", Run.ILLEGAL)
                .leaves("next(3, 0)", Run.BOUNDS)
                .leaves("ofPager(-1, 4)", Run.BOUNDS);
    }

    private static void descriptionExceptionsGoAheadOfRefused() {
        Run.four()
                .leaves("rangePut(20, 10, 15, 1000)", Run.ILLEGAL)
                .leaves("rangePut(20, 30, 15, -1000)", Run.ILLEGAL);
        Run.full()
                .leaves("rangePut(20, 10, 15, 0)", Run.STATE)
                .leaves("rangePut(20, 30, 15, 0)", Run.STATE);
    }

    /** As the longest use of an object that is promised. */
    private static void descriptionAnObjectStandsFor512Calls() {
        Run run = Run.of();
        for (int call = 1; call <= 511; call++) {
            run.then(call % 2 == 1 ? "put(least, 1)" : "clear()");
        }
        run.gives("digest()", Check.digestOf(1, 12, 0, 0, 0, Run.LEAST, 1, Run.LEAST,
                0, 1, 0, 0, 0, 1, 0, 0, 0, 1, 0, 0, Run.LEAST + 1, "{-2147483648=1}".length(), 1, 1));
    }

    // ---- PAIRS and sequences

    private static void descriptionAtMost24Pairs() {
        Run.full()
                .gives("size()", 24)
                .leaves("put(5, 0)", Run.STATE)
                .leaves("putNew(5, 0)", Run.STATE)
                .leaves("rangePut(5, 5, 5, 0)", Run.STATE)
                .gives("remove(240)", 24)
                .gives("put(5, 0)", Run.NONE)
                .gives("size()", 24)
                .leaves("put(6, 0)", Run.STATE);
    }

    private static void descriptionNoPairsAtFirst() {
        Run.of().leaves("size()", 0).leaves("text()", "{}").leaves("uses()", "");
    }

    private static void descriptionNoTwoHaveTheSameKey() {
        Run.four().then("put(10, 5)", "putNew(10, 6)", "rangePut(0, 99, 10, 7)", "replace(10, 8)")
                .gives("size()", 4)
                .text("{10=8, 20=2, 30=3, 40=4}")
                .uses("30 40 20 10");
    }

    private static void descriptionAPairThatComesStandsLast() {
        Run.four().then("put(5, 0)").uses("30 10 40 20 5")
                .then("putNew(35, 0)").uses("30 10 40 20 5 35")
                .then("rangePut(1, 1, 1, 0)").uses("30 10 40 20 5 35 1")
                .then("remove(30)", "put(30, 3)").uses("10 40 20 5 35 1 30");
    }

    private static void descriptionAPairThatIsUsedGoesToTheEnd() {
        Run.four()
                .then("get(30)").uses("10 40 20 30")
                .then("get(30)").uses("10 40 20 30")
                .then("getOr(40, 0)").uses("10 20 30 40")
                .then("put(20, 5)").uses("10 30 40 20")
                .then("putNew(10, 5)").uses("30 40 20 10")
                .then("replace(40, 5)").uses("30 20 10 40")
                .then("replaceIf(30, 3, 5)").uses("20 10 40 30")
                .then("rangePut(0, 99, 20, 6)").uses("10 40 30 20");
    }

    private static void descriptionAPairStaysWhenOthersGo() {
        Run.four().then("remove(10)").uses("30 40 20").then("poll(false)").uses("30 40")
                .then("put(50, 5)", "rangePoll(35, 45, true)").uses("30 50").then("dropAged()").uses("50");
    }

    private static void descriptionAPairStaysWhenItIsOnlyAskedFor() {
        Run.four().leaves("look(30)", 3).leaves("has(30)", true).leaves("hasValue(3)", true)
                .leaves("near(30, 1)", 30).leaves("nearValue(30, 2)", 3).leaves("ageOf(30)", 3)
                .leaves("rangeText(30, 30)", "30=3").leaves("rangeAge(0, 99, false)", 30).leaves("aged(false)", 30)
                .then("next(0, 24)").uses("30 10 40 20");
    }

    private static void descriptionARangeHasBothItsEnds() {
        Run.four()
                .leaves("inRange(10, 40)", 4).leaves("inRange(11, 40)", 3).leaves("inRange(10, 39)", 3)
                .leaves("inRange(9, 41)", 4).leaves("inRange(20, 20)", 1).leaves("rangeSum(20, 30)", 5);
    }

    private static void descriptionARangeHasTheEndsOfTheInts() {
        Run.ends().leaves("inRange(least, greatest)", 4).leaves("inRange(least, least)", 1)
                .leaves("inRange(greatest, greatest)", 1).leaves("inRange(-2147483647, 2147483646)", 2);
    }

    // ---- STEPS

    private static void descriptionACallThatLetsAPairComeIsAStep() {
        Run.of().then("put(1, 1)").steps(1).then("putNew(2, 2)").steps(2).then("rangePut(3, 3, 3, 3)").steps(3)
                .then("copy()", "clear()", "forget()", "back()").steps(1);
    }

    private static void descriptionACallThatLetsAPairGoIsAStep() {
        Run.full().then("forget()", "remove(10)").steps(1).then("removeIf(20, 2)").steps(2).then("poll(false)").steps(3)
                .then("poll(true)").steps(4).then("rangePoll(50, 60, true)").steps(5).then("rangeClear(70, 90)")
                .steps(6).then("dropAged()").steps(7).then("keep(10)").steps(8).then("clear()").steps(9);
        Run.four().then("back()").steps(5);
    }

    private static void descriptionACallThatMakesAValueAnotherOneIsAStep() {
        Run.four().then("copy()", "forget()", "put(10, 5)").steps(1).then("replace(20, 5)").steps(2)
                .then("replaceIf(30, 3, 5)").steps(3).then("rangePut(0, 99, 40, 5)").steps(4).then("back()").steps(5);
    }

    private static void descriptionACallByWhichNothingComesOrGoesIsNoStep() {
        Run.four().then("remove(15)", "removeIf(10, 2)", "replace(15, 0)", "replaceIf(10, 2, 3)", "rangeClear(11, 19)",
                "keep(4)", "get(10)", "getOr(15, 0)", "next(0, 1)", "page(0)", "copy()", "back()", "knock()").steps(4);
    }

    private static void descriptionACallByWhichAValueStaysTheSameIsNoStep() {
        Run.four().then("put(10, 1)", "putNew(20, 9)", "replace(30, 3)", "replaceIf(40, 4, 4)",
                "rangePut(0, 99, 10, 1)")
                .steps(4)
                .uses("20 30 40 10");
    }

    private static void descriptionUndoIsNoStep() {
        Run.four().then("undo()").steps(3).then("undo()").steps(2).text("{10=1, 30=3}");
    }

    private static void descriptionACallOfManyKeysIsOneStep() {
        Run.four().then("copy()", "clear()").steps(5).then("back()").steps(6).then("rangeClear(10, 20)").steps(7)
                .then("keep(0)").steps(8);
    }

    private static void descriptionTheLast12StepsAreKept() {
        Run run = Run.of();
        for (int key = 1; key <= 14; key++) {
            run.then("put(" + key + ", 0)").steps(Math.min(key, 12));
        }
        for (int key = 14; key >= 3; key--) {
            run.gives("undo()", 1).gives("first(true)", key - 1);
        }
        run.leaves("undo()", Run.REFUSED).text("{1=0, 2=0}");
    }

    private static void descriptionAStepOfManyKeysIsLeftOutWhole() {
        Run run = Run.four().then("forget()", "clear()");
        for (int step = 1; step <= 12; step++) {
            run.then("put(7, " + step + ")");
        }
        for (int step = 12; step >= 1; step--) {
            run.gives("undo()", 1);
        }
        run.leaves("undo()", Run.REFUSED).text("{}");
    }

    private static void descriptionUndoGoesKeyByKeyTheLastOneFirst() {
        Run.four().then("keep(1)").gives("undo()", 3).uses("20 40 10 30");
        Run.four().then("clear()").gives("undo()", 4).uses("40 30 20 10");
        Run.four().then("rangeClear(20, 40)").gives("undo()", 3).uses("10 40 30 20");
    }

    private static void descriptionUndoLetsAPairHaveItsValueAgainAndUsesIt() {
        Run.four().then("put(30, 5)", "get(10)").gives("undo()", 1)
                .text("{10=1, 20=2, 30=3, 40=4}").uses("40 20 10 30");
    }

    private static void descriptionUndoLetsAPairThatWentComeAgain() {
        Run.four().then("remove(30)").gives("undo()", 1).text("{10=1, 20=2, 30=3, 40=4}").uses("10 40 20 30");
    }

    private static void descriptionUndoLetsAPairThatCameGo() {
        Run.four().then("get(30)").gives("undo()", 1).text("{10=1, 30=3, 40=4}").uses("10 40 30");
    }

    private static void descriptionAStepThatIsUndoneIsKeptNoMore() {
        Run.of("put(1, 1)", "put(1, 2)", "put(1, 3)").gives("undo()", 1).steps(2).gives("look(1)", 2)
                .gives("undo()", 1).steps(1).gives("look(1)", 1).gives("undo()", 1).steps(0).gives("look(1)", Run.NONE)
                .leaves("undo()", Run.REFUSED);
    }

    private static void descriptionAStepAfterUndoTakesThePlaceOfTheUndoneOne() {
        Run.of("put(1, 1)", "put(1, 2)", "undo()", "put(2, 2)", "undo()").text("{1=1}").then("undo()").text("{}");
    }

    // ---- PAGERS

    private static void descriptionPagersAre0To2() {
        Run.four().gives("next(0, 1)", "10").gives("next(1, 2)", "10 20").gives("next(2, 3)", "10 20 30")
                .leaves("next(-1, 1)", Run.BOUNDS).leaves("next(3, 1)", Run.BOUNDS)
                .leaves("ofPager(-1, 0)", Run.BOUNDS).leaves("ofPager(3, 0)", Run.BOUNDS)
                .leaves("page(-1)", Run.BOUNDS).leaves("page(3)", Run.BOUNDS)
                .gives("page(0)", 1).gives("page(1)", 2).gives("page(2)", 3);
    }

    private static void descriptionAMarkIsNoneAtFirstAndAsItBegins() {
        Run.four().leaves("ofPager(2, 2)", 0).then("next(2, 2)").gives("ofPager(2, 2)", 1)
                .then("page(2)").gives("ofPager(2, 2)", 0).gives("ofPager(2, 3)", 0).gives("next(2, 1)", "10");
    }

    private static void descriptionAPagerGoesOnAboveItsMark() {
        Run.four().then("next(0, 2)", "remove(20)", "put(15, 0)", "put(20, 7)", "put(21, 0)")
                .gives("ofPager(0, 1)", 3).gives("next(0, 24)", "21 30 40");
    }

    private static void descriptionAPagerGoesOnWithTheKeysThatAreThereThen() {
        Run.four().then("next(0, 1)", "clear()").leaves("next(0, 24)", "")
                .then("put(5, 0)", "put(11, 0)").gives("next(0, 24)", "11");
    }

    private static void descriptionChangesOfPairsLeaveMarks() {
        Run.four().then("next(1, 2)", "remove(20)").gives("ofPager(1, 3)", 20)
                .then("clear()").gives("ofPager(1, 3)", 20).gives("ofPager(1, 2)", 1).gives("ofPager(1, 0)", 2)
                .then("undo()", "undo()", "put(20, 9)", "copy()", "back()", "keep(1)").gives("ofPager(1, 3)", 20);
    }
}
