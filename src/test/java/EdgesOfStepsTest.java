/** The edges of promises 41 to 47, a test each: STEPS and the COPY. */
public final class EdgesOfStepsTest {
    private EdgesOfStepsTest() {
    }

    public static void main(String[] args) {
        Run.tests(EdgesOfStepsTest.class, 41, 47);
    }

    /** 24 PAIRS, and a COPY of 24 with quite other KEYS. */
    private static Run fullApart() {
        Run run = Run.full().then("copy()", "clear()");
        for (int key = 1; key <= 24; key++) {
            run.then("put(-" + key + ", " + key + ")");
        }
        return run;
    }

    // ---- 41: undo

    private static void promise41RefusedIfNoneIsKept() {
        Run.of().leaves("undo()", Run.REFUSED);
        Run.of("get(0)", "put(1, 1)", "undo()").leaves("undo()", Run.REFUSED).text("{}");
    }

    private static void promise41RefusedAfterTheLast12() {
        Run run = Run.full();
        for (int step = 1; step <= 12; step++) {
            run.gives("undo()", 1);
        }
        run.leaves("undo()", Run.REFUSED).gives("keys(false)", "10 20 30 40 50 60 70 80 90 100 110 120");
    }

    private static void promise41Exactly12() {
        Run run = Run.of();
        for (int step = 1; step <= 12; step++) {
            run.then("put(7, " + step + ")");
        }
        for (int step = 12; step >= 1; step--) {
            run.gives("look(7)", step).gives("undo()", 1);
        }
        run.text("{}").leaves("undo()", Run.REFUSED);
    }

    private static void promise41TheFirstOfMoreThan12IsKeptNoMore() {
        Run run = Run.of();
        for (int step = 0; step <= 12; step++) {
            run.then("put(7, " + step + ")");
        }
        for (int step = 12; step >= 1; step--) {
            run.gives("look(7)", step).gives("undo()", 1);
        }
        run.text("{7=0}").leaves("undo()", Run.REFUSED);
    }

    private static void promise41ReturnsOfHowManyKeys() {
        Run.four().then("put(10, 5)").gives("undo()", 1).then("rangeClear(20, 30)").gives("undo()", 2)
                .then("keep(1)").gives("undo()", 3).then("clear()").gives("undo()", 4);
    }

    private static void promise41OfAStepOf24Keys() {
        Run.full().then("clear()").gives("undo()", 24).text(Run.full().text())
                .uses("240 230 220 210 200 190 180 170 160 150 140 130 120 110 100 90 80 70 60 50 40 30 20 10");
    }

    private static void promise41OfAStepOf48Keys() {
        String before = fullApart().text();
        fullApart().gives("back()", 48).gives("undo()", 48).text(before).leaves("apart()", 48);
    }

    private static void promise41OfTwelveStepsOfManyKeys() {
        Run run = fullApart();
        String others = run.text();
        run.gives("back()", 48).gives("clear()", 24);
        for (int time = 2; time <= 6; time++) {
            run.gives("back()", 24).gives("clear()", 24);
        }
        for (int time = 6; time >= 2; time--) {
            run.gives("undo()", 24).text(Run.full().text()).gives("undo()", 24).text("{}");
        }
        run.gives("undo()", 24).gives("undo()", 48).text(others).leaves("undo()", Run.REFUSED);
    }

    private static void promise41AfterFarMoreThan12LargeSteps() {
        Run run = Run.full().then("copy()");
        for (int time = 1; time <= 40; time++) {
            run.then("clear()", "back()");
        }
        undoesTwelveOf24(run);
    }

    private static void promise41AfterFarMoreThan12LargeStepsThatAreForgotten() {
        Run run = Run.full().then("copy()");
        for (int time = 1; time <= 40; time++) {
            run.then("clear()", "back()");
            if (time % 5 == 0) {
                run.gives("forget()", time == 5 ? 12 : 10);
            }
        }
        undoesTwelveOf24(run);
    }

    /** Twelve STEPS, each of another KEY with another VALUE, of an index like full(). */
    private static void undoesTwelveOf24(Run run) {
        for (int number = 1; number <= 12; number++) {
            run.then("put(" + 20 * number + ", -" + number + ")");
        }
        for (int number = 12; number >= 1; number--) {
            run.gives("look(" + 20 * number + ")", -number).gives("undo()", 1)
                    .gives("look(" + 20 * number + ")", 2 * number).gives("aged(true)", 20 * number);
        }
        run.text(Run.full().text()).leaves("undo()", Run.REFUSED);
    }

    private static void promise41IsUseOfWhatComesAgain() {
        Run.four().then("remove(30)", "undo()").uses("10 40 20 30");
    }

    private static void promise41IsUseOfWhatHasItsValueAgain() {
        Run.four().then("put(30, 5)", "get(10)", "undo()").uses("40 20 10 30").gives("look(30)", 3);
    }

    private static void promise41LeavesUsesThatWereNoSteps() {
        Run.four().then("get(30)", "undo()").uses("10 40 30").text("{10=1, 30=3, 40=4}");
    }

    private static void promise41KeysAtTheEndsOfTheInts() {
        Run.ends().then("put(least, 9)", "remove(greatest)").gives("undo()", 1).gives("undo()", 1)
                .text("{-2147483648=3, -1=4, 0=2, 2147483647=1}").uses("0 -1 2147483647 -2147483648");
    }

    private static void promise41AValueAheadOf0AndOfTheLeast() {
        Run.of("put(1, 0)", "put(1, -999)", "put(1, 999)", "remove(1)").gives("undo()", 1).gives("look(1)", 999)
                .gives("undo()", 1).gives("look(1)", -999).gives("undo()", 1).gives("look(1)", 0).gives("undo()", 1)
                .gives("look(1)", Run.NONE);
    }

    private static void promise41LeavesMarksTheCopyAndKnocks() {
        Run.four().then("next(0, 2)", "copy()", "knock()", "clear()", "undo()")
                .gives("ofPager(0, 3)", 20).gives("ofPager(0, 0)", 2).gives("house(2)", 4).gives("house(4)", 1);
    }

    private static void promise41OfAFullIndexAfterUses() {
        Run.full().then("remove(10)", "put(5, 0)", "get(20)").gives("undo()", 1).gives("undo()", 1)
                .text(Run.full().text()).gives("aged(true)", 10).gives("ageOf(20)", 1);
    }

    // ---- 42: steps

    private static void promise42OfNone() {
        Run.of().leaves("steps()", 0);
        Run.of("put(1, 1)", "undo()").leaves("steps()", 0);
    }

    private static void promise42IsAtMost12() {
        Run run = Run.of();
        for (int key = 1; key <= 24; key++) {
            run.then("put(" + key + ", 0)").leaves("steps()", Math.min(key, 12));
        }
    }

    private static void promise42IsOneLessAfterUndoOf12() {
        Run.full().leaves("steps()", 12).then("undo()").leaves("steps()", 11).then("put(5, 0)").leaves("steps()", 12)
                .then("put(5, 1)").leaves("steps()", 12);
    }

    private static void promise42ARefusedCallIsNone() {
        Run.four().leaves("put(10, 1000)", Run.ILLEGAL).leaves("rangePut(20, 10, 15, 0)", Run.REFUSED)
                .leaves("rangeClear(20, 10)", Run.REFUSED).leaves("keep(-1)", Run.ILLEGAL).leaves("steps()", 4);
    }

    // ---- 43: forget

    private static void promise43OfNone() {
        Run.of().leaves("forget()", 0);
        Run.four().gives("forget()", 4).leaves("forget()", 0);
    }

    private static void promise43OfMoreThan12() {
        Run.full().gives("forget()", 12).leaves("undo()", Run.REFUSED).leaves("steps()", 0).text(Run.full().text());
    }

    private static void promise43LeavesPairsAndUse() {
        Run.four().gives("forget()", 4).text("{10=1, 20=2, 30=3, 40=4}").uses("30 10 40 20");
    }

    private static void promise43StepsAfterItAreKept() {
        Run.full().then("clear()", "forget()", "put(1, 1)").steps(1).gives("undo()", 1).text("{}")
                .leaves("undo()", Run.REFUSED);
    }

    // ---- 44: copy

    private static void promise44OfNoPairs() {
        Run.of().leaves("copy()", 0);
        Run.four().gives("copy()", 4).then("clear()").gives("copy()", 0).gives("house(2)", 0).leaves("back()", 0);
    }

    private static void promise44Of24() {
        Run.full().gives("copy()", 24).gives("house(2)", 24).leaves("isCopy()", true);
    }

    private static void promise44InPlaceOfTheOneThatThereWas() {
        Run.four().then("copy()", "remove(10)", "put(20, 9)").gives("copy()", 3).then("clear()").gives("back()", 3)
                .text("{20=9, 30=3, 40=4}");
        Run.full().then("copy()", "keep(1)").gives("copy()", 1).then("put(5, 0)").gives("back()", 1).text("{240=24}");
    }

    private static void promise44ChangesOfPairsLeaveIt() {
        Run.four().then("copy()", "clear()", "put(1, 1)").gives("house(2)", 4).gives("back()", 5)
                .text("{10=1, 20=2, 30=3, 40=4}");
    }

    private static void promise44IsNoStepAndNoUse() {
        Run.four().then("copy()").steps(4).uses("30 10 40 20");
    }

    private static void promise44IsNotUndone() {
        Run.four().then("copy()", "undo()").gives("house(2)", 4).gives("apart()", 1);
    }

    // ---- 45: isCopy

    private static void promise45OfNoPairsAndNoCopy() {
        Run.of().leaves("isCopy()", true).then("put(0, 0)").leaves("isCopy()", false)
                .then("undo()").leaves("isCopy()", true);
    }

    private static void promise45WithOneMoreAndOneLess() {
        Run.four().then("copy()").leaves("isCopy()", true).then("put(15, 0)").leaves("isCopy()", false)
                .then("remove(15)").leaves("isCopy()", true).then("remove(40)").leaves("isCopy()", false);
    }

    private static void promise45WithAnotherValueOrKey() {
        Run.four().then("copy()", "put(10, 2)").leaves("isCopy()", false).then("put(10, 1)").leaves("isCopy()", true)
                .then("remove(10)", "put(11, 1)").leaves("isCopy()", false);
    }

    private static void promise45WhateverTheUse() {
        Run.four().then("copy()", "get(30)", "remove(10)", "put(10, 1)").leaves("isCopy()", true);
    }

    // ---- 46: apart

    private static void promise46OfNoPairsAndNoCopy() {
        Run.of().leaves("apart()", 0);
    }

    private static void promise46OfOneWithoutTheOther() {
        Run.four().leaves("apart()", 4).then("copy()").leaves("apart()", 0).then("clear()").leaves("apart()", 4);
    }

    private static void promise46AKeyWithAnotherValueIsOne() {
        Run.four().then("copy()", "put(10, 2)").leaves("apart()", 1).then("put(20, 1)").leaves("apart()", 2);
    }

    private static void promise46AnotherKeyIsTwo() {
        Run.four().then("copy()", "remove(10)", "put(11, 1)").leaves("apart()", 2);
    }

    private static void promise46Of48Keys() {
        fullApart().leaves("apart()", 48);
    }

    private static void promise46KeysAtTheEndsOfTheInts() {
        Run.ends().then("copy()", "put(least, 0)", "remove(greatest)").leaves("apart()", 2);
    }

    // ---- 47: back

    private static void promise47OfAnEmptyCopy() {
        Run.four().gives("back()", 4).text("{}").uses("").steps(5).gives("undo()", 4).uses("40 30 20 10");
    }

    private static void promise47OfNoPairs() {
        Run.four().then("copy()", "clear()").gives("back()", 4).text("{10=1, 20=2, 30=3, 40=4}").uses("10 20 30 40")
                .steps(6).gives("undo()", 4).text("{}");
    }

    private static void promise47WhereNothingChangesIsNoStep() {
        Run.of().leaves("back()", 0);
        Run.four().then("copy()", "get(30)").leaves("back()", 0).steps(4).uses("10 40 20 30");
        Run.full().then("copy()").leaves("back()", 0);
    }

    private static void promise47FirstThoseGoThenThoseCome() {
        Run.four().then("copy()", "remove(40)", "remove(10)", "put(45, 0)", "put(5, 0)", "put(30, 9)")
                .gives("back()", 5).text("{10=1, 20=2, 30=3, 40=4}").uses("20 10 30 40")
                .gives("undo()", 5).text("{5=0, 20=2, 30=9, 45=0}").uses("20 30 45 5");
    }

    private static void promise47ThoseThatAreAlikeAreNotUsed() {
        Run.four().then("copy()", "put(20, 9)").gives("back()", 1).uses("30 10 40 20");
        Run.four().then("copy()", "put(30, 9)", "put(30, 3)").leaves("back()", 0).uses("10 40 20 30");
    }

    private static void promise47From24To24OthersNeverAbove24() {
        fullApart().gives("back()", 48).text(Run.full().text()).leaves("isCopy()", true).gives("size()", 24)
                .uses("10 20 30 40 50 60 70 80 90 100 110 120 130 140 150 160 170 180 190 200 210 220 230 240")
                .steps(12).leaves("isSound()", true);
    }

    private static void promise47KeysAtTheEndsOfTheInts() {
        Run.ends().then("copy()", "put(least, 0)", "remove(greatest)", "put(5, 5)").gives("back()", 3)
                .text("{-2147483648=3, -1=4, 0=2, 2147483647=1}").uses("0 -1 -2147483648 2147483647");
    }

    private static void promise47ValuesOf0AreValues() {
        Run.of("put(1, 0)", "copy()", "put(1, 5)", "put(2, 0)").gives("back()", 2).text("{1=0}")
                .gives("undo()", 2).text("{1=5, 2=0}");
    }
}
