/** The edges of promises 23 to 32, a test each: RANGES. */
public final class EdgesOfRangesTest {
    private EdgesOfRangesTest() {
    }

    public static void main(String[] args) {
        Run.tests(EdgesOfRangesTest.class, 23, 32);
    }

    /** 24 PAIRS, of KEYS around 0 and at both ends of the ints, all with the VALUE -999. */
    private static Run fullOfLeastValues() {
        Run run = Run.of("put(greatest, -999)", "put(least, -999)");
        for (int key = -11; key <= 10; key++) {
            run.then("put(" + key + ", -999)");
        }
        return run;
    }

    // ---- 23: inRange

    private static void promise23RefusedIfFromIsAboveTo() {
        Run.four().leaves("inRange(20, 19)", Run.REFUSED).leaves("inRange(40, 10)", Run.REFUSED)
                .leaves("inRange(greatest, least)", Run.REFUSED).leaves("inRange(0, -1)", Run.REFUSED);
        Run.of().leaves("inRange(1, 0)", Run.REFUSED);
    }

    private static void promise23FromMayBeTo() {
        Run.four().leaves("inRange(20, 20)", 1).leaves("inRange(15, 15)", 0);
    }

    private static void promise23ARangeWithoutPairs() {
        Run.of().leaves("inRange(least, greatest)", 0).leaves("inRange(0, 0)", 0);
        Run.four().leaves("inRange(11, 19)", 0).leaves("inRange(least, 9)", 0).leaves("inRange(41, greatest)", 0);
    }

    private static void promise23TheEndsOfTheInts() {
        Run.ends().leaves("inRange(least, greatest)", 4).leaves("inRange(least, least)", 1)
                .leaves("inRange(greatest, greatest)", 1).leaves("inRange(-2147483647, 2147483646)", 2)
                .leaves("inRange(least, -1)", 2).leaves("inRange(0, greatest)", 2);
    }

    private static void promise23Of24() {
        Run.full().leaves("inRange(10, 240)", 24).leaves("inRange(11, 240)", 23).leaves("inRange(10, 239)", 23);
    }

    // ---- 24: rangeEnd

    private static void promise24ThrowsIfFromIsAboveTo() {
        Run.four().leaves("rangeEnd(20, 19, false)", Run.ILLEGAL).leaves("rangeEnd(40, 10, true)", Run.ILLEGAL)
                .leaves("rangeEnd(greatest, least, true)", Run.ILLEGAL);
    }

    private static void promise24FromAboveToIsLookedAtFirst() {
        Run.of().leaves("rangeEnd(1, 0, false)", Run.ILLEGAL).leaves("rangeEnd(1, 0, true)", Run.ILLEGAL);
    }

    private static void promise24ThrowsIfThereIsNone() {
        Run.of().leaves("rangeEnd(least, greatest, false)", Run.STATE).leaves("rangeEnd(0, 0, true)", Run.STATE);
        Run.four().leaves("rangeEnd(11, 19, false)", Run.STATE).leaves("rangeEnd(11, 19, true)", Run.STATE)
                .leaves("rangeEnd(least, 9, true)", Run.STATE).leaves("rangeEnd(41, greatest, false)", Run.STATE);
    }

    private static void promise24BothEndsLieInTheRange() {
        Run.four().leaves("rangeEnd(10, 40, false)", 10).leaves("rangeEnd(10, 40, true)", 40)
                .leaves("rangeEnd(11, 39, false)", 20).leaves("rangeEnd(11, 39, true)", 30)
                .leaves("rangeEnd(20, 20, false)", 20).leaves("rangeEnd(20, 20, true)", 20);
    }

    private static void promise24TheEndsOfTheInts() {
        Run.ends().leaves("rangeEnd(least, greatest, false)", Run.LEAST)
                .leaves("rangeEnd(least, greatest, true)", Run.GREATEST)
                .leaves("rangeEnd(least, least, true)", Run.LEAST)
                .leaves("rangeEnd(greatest, greatest, false)", Run.GREATEST)
                .leaves("rangeEnd(-2147483647, 2147483646, false)", -1)
                .leaves("rangeEnd(-2147483647, 2147483646, true)", 0);
    }

    // ---- 25: rangeNear

    private static void promise25ThrowsIfFromIsAboveTo() {
        Run.four().leaves("rangeNear(20, 19, 20, 1)", Run.ILLEGAL).leaves("rangeNear(40, 10, 20, 2)", Run.ILLEGAL)
                .leaves("rangeNear(greatest, least, 20, 0)", Run.ILLEGAL);
        Run.of().leaves("rangeNear(1, 0, 0, 3)", Run.ILLEGAL);
    }

    private static void promise25HowTooSmallAndTooLarge() {
        Run.four().leaves("rangeNear(10, 40, 20, -1)", Run.ILLEGAL).leaves("rangeNear(10, 40, 20, 4)", Run.ILLEGAL)
                .leaves("rangeNear(10, 40, 20, least)", Run.ILLEGAL)
                .leaves("rangeNear(10, 40, 20, greatest)", Run.ILLEGAL);
        Run.of().leaves("rangeNear(0, 1, 0, -1)", Run.ILLEGAL).leaves("rangeNear(0, 1, 0, 4)", Run.ILLEGAL);
    }

    private static void promise25ThrowsIfThereIsNone() {
        for (int how = 0; how <= 3; how++) {
            Run.of().leaves("rangeNear(least, greatest, 0, " + how + ")", Run.STATE);
            Run.four().leaves("rangeNear(11, 19, 15, " + how + ")", Run.STATE)
                    .leaves("rangeNear(11, 19, 10, " + how + ")", Run.STATE)
                    .leaves("rangeNear(11, 19, 20, " + how + ")", Run.STATE);
        }
    }

    private static void promise25ThrowsIfItLiesOutsideTheRange() {
        Run.four().leaves("rangeNear(20, 30, 20, 0)", Run.STATE).leaves("rangeNear(20, 30, 19, 1)", Run.STATE)
                .leaves("rangeNear(20, 30, 31, 2)", Run.STATE).leaves("rangeNear(20, 30, 30, 3)", Run.STATE);
    }

    private static void promise25BothEndsLieInTheRange() {
        Run.four().leaves("rangeNear(20, 30, 21, 0)", 20).leaves("rangeNear(20, 30, 20, 1)", 20)
                .leaves("rangeNear(20, 30, 30, 2)", 30).leaves("rangeNear(20, 30, 29, 3)", 30);
    }

    private static void promise25AKeyOutsideTheRange() {
        Run.four().leaves("rangeNear(15, 35, 99, 0)", 30).leaves("rangeNear(15, 35, 40, 1)", 30)
                .leaves("rangeNear(15, 35, 10, 2)", 20).leaves("rangeNear(15, 35, 0, 3)", 20)
                .leaves("rangeNear(15, 35, greatest, 1)", 30).leaves("rangeNear(15, 35, least, 3)", 20)
                .leaves("rangeNear(15, 35, 10, 0)", Run.STATE).leaves("rangeNear(15, 35, 10, 1)", Run.STATE)
                .leaves("rangeNear(15, 35, 40, 2)", Run.STATE).leaves("rangeNear(15, 35, 40, 3)", Run.STATE);
    }

    private static void promise25TheEndsOfTheInts() {
        Run.ends()
                .leaves("rangeNear(least, greatest, least, 0)", Run.STATE)
                .leaves("rangeNear(least, greatest, least, 1)", Run.LEAST)
                .leaves("rangeNear(least, greatest, least, 3)", -1)
                .leaves("rangeNear(least, greatest, greatest, 0)", 0)
                .leaves("rangeNear(least, greatest, greatest, 2)", Run.GREATEST)
                .leaves("rangeNear(least, greatest, greatest, 3)", Run.STATE)
                .leaves("rangeNear(least, least, greatest, 0)", Run.LEAST)
                .leaves("rangeNear(greatest, greatest, least, 3)", Run.GREATEST);
    }

    // ---- 26: rangePut

    private static void promise26RefusedIfFromIsAboveTo() {
        Run.four().leaves("rangePut(20, 19, 20, 5)", Run.REFUSED).leaves("rangePut(40, 10, 20, 5)", Run.REFUSED)
                .leaves("rangePut(greatest, least, 15, 5)", Run.REFUSED);
        Run.of().leaves("rangePut(1, 0, 0, 0)", Run.REFUSED).leaves("rangePut(1, 0, 1, 0)", Run.REFUSED);
    }

    private static void promise26RefusedIfTheKeyDoesNotLieInTheRange() {
        Run.four().leaves("rangePut(11, 19, 10, 5)", Run.REFUSED).leaves("rangePut(11, 19, 20, 5)", Run.REFUSED)
                .leaves("rangePut(11, 19, least, 5)", Run.REFUSED).leaves("rangePut(11, 19, greatest, 5)", Run.REFUSED);
    }

    private static void promise26BothEndsLieInTheRange() {
        Run.four().gives("rangePut(11, 19, 11, 5)", Run.NONE).gives("rangePut(11, 19, 19, 6)", Run.NONE)
                .gives("rangePut(20, 20, 20, 7)", 2).text("{10=1, 11=5, 19=6, 20=7, 30=3, 40=4}");
    }

    private static void promise26ValuesTooSmallAndTooLarge() {
        Run.four().leaves("rangePut(10, 20, 10, -1000)", Run.ILLEGAL).leaves("rangePut(10, 20, 10, 1000)", Run.ILLEGAL)
                .leaves("rangePut(10, 20, 15, least)", Run.ILLEGAL)
                .leaves("rangePut(10, 20, 15, greatest)", Run.ILLEGAL);
    }

    private static void promise26TheLeastAndTheGreatestValue() {
        Run.four().gives("rangePut(10, 20, 10, -999)", 1).gives("rangePut(10, 20, 10, 999)", -999)
                .gives("rangePut(10, 20, 15, 999)", Run.NONE).gives("rangePut(10, 20, 15, -999)", 999);
    }

    private static void promise26TheValueIsLookedAtAheadOfTheRange() {
        Run.four().leaves("rangePut(20, 10, 15, 1000)", Run.ILLEGAL).leaves("rangePut(20, 30, 15, -1000)", Run.ILLEGAL);
    }

    private static void promise26AKeyThatIsNotThereOf24() {
        Run.full().leaves("rangePut(1, 9, 5, 0)", Run.STATE).leaves("rangePut(least, greatest, 245, 0)", Run.STATE);
    }

    private static void promise26AKeyThatIsNotThereOf24AlsoOutsideTheRange() {
        Run.full().leaves("rangePut(1, 9, 11, 0)", Run.STATE).leaves("rangePut(10, 20, 9, 0)", Run.STATE);
    }

    private static void promise26AKeyThatIsNotThereOf24AheadOfFromAboveTo() {
        Run.full().leaves("rangePut(9, 1, 5, 0)", Run.STATE).leaves("rangePut(9, 1, 11, 0)", Run.STATE);
    }

    private static void promise26TheValueIsLookedAtAheadOf24() {
        Run.full().leaves("rangePut(1, 9, 5, 1000)", Run.ILLEGAL).leaves("rangePut(9, 1, 11, -1000)", Run.ILLEGAL);
    }

    private static void promise26AKeyThatIsThereOf24() {
        Run.full().gives("rangePut(10, 10, 10, 7)", 1).gives("aged(true)", 10).gives("size()", 24)
                .leaves("rangePut(11, 20, 10, 8)", Run.REFUSED).leaves("rangePut(20, 11, 20, 8)", Run.REFUSED);
    }

    private static void promise26TheSameValueIsAUseAndNoStep() {
        Run.four().gives("rangePut(30, 30, 30, 3)", 3).uses("10 40 20 30").steps(4);
    }

    private static void promise26TheEndsOfTheInts() {
        Run.of().gives("rangePut(least, least, least, 1)", Run.NONE)
                .gives("rangePut(greatest, greatest, greatest, 2)", Run.NONE)
                .gives("rangePut(least, greatest, least, 3)", 1).gives("rangePut(least, greatest, greatest, 4)", 2)
                .leaves("rangePut(least, 2147483646, greatest, 5)", Run.REFUSED)
                .leaves("rangePut(-2147483647, greatest, least, 5)", Run.REFUSED)
                .text("{-2147483648=3, 2147483647=4}");
    }

    // ---- 27: rangePoll

    private static void promise27ThrowsIfFromIsAboveTo() {
        Run.four().leaves("rangePoll(20, 19, false)", Run.ILLEGAL).leaves("rangePoll(40, 10, true)", Run.ILLEGAL)
                .leaves("rangePoll(greatest, least, true)", Run.ILLEGAL);
        Run.of().leaves("rangePoll(1, 0, false)", Run.ILLEGAL).leaves("rangePoll(1, 0, true)", Run.ILLEGAL);
    }

    private static void promise27ThrowsIfThereIsNone() {
        Run.of().leaves("rangePoll(least, greatest, false)", Run.STATE).leaves("rangePoll(0, 0, true)", Run.STATE);
        Run.four().leaves("rangePoll(11, 19, false)", Run.STATE).leaves("rangePoll(11, 19, true)", Run.STATE)
                .leaves("rangePoll(least, 9, true)", Run.STATE).leaves("rangePoll(41, greatest, false)", Run.STATE);
    }

    private static void promise27BothEndsLieInTheRange() {
        Run.four().gives("rangePoll(10, 40, false)", 10).gives("rangePoll(10, 40, true)", 40).uses("30 20").steps(6);
        Run.four().gives("rangePoll(11, 39, false)", 20).gives("rangePoll(11, 39, true)", 30).uses("10 40").steps(6);
        Run.four().gives("rangePoll(20, 20, true)", 20).leaves("rangePoll(20, 20, true)", Run.STATE);
    }

    private static void promise27TheEndsOfTheInts() {
        Run.ends().gives("rangePoll(least, greatest, true)", Run.GREATEST)
                .gives("rangePoll(least, greatest, false)", Run.LEAST).text("{-1=4, 0=2}");
        Run.ends().gives("rangePoll(greatest, greatest, false)", Run.GREATEST)
                .gives("rangePoll(least, least, true)", Run.LEAST).text("{-1=4, 0=2}");
    }

    // ---- 28: rangeClear

    private static void promise28RefusedIfFromIsAboveTo() {
        Run.four().leaves("rangeClear(20, 19)", Run.REFUSED).leaves("rangeClear(40, 10)", Run.REFUSED)
                .leaves("rangeClear(greatest, least)", Run.REFUSED);
        Run.of().leaves("rangeClear(1, 0)", Run.REFUSED);
    }

    private static void promise28ARangeWithoutPairsIsNoStep() {
        Run.of().leaves("rangeClear(least, greatest)", 0);
        Run.four().leaves("rangeClear(11, 19)", 0).leaves("rangeClear(least, 9)", 0)
                .leaves("rangeClear(41, greatest)", 0).steps(4);
    }

    private static void promise28BothEndsLieInTheRange() {
        Run.four().gives("rangeClear(20, 30)", 2).text("{10=1, 40=4}").uses("10 40").steps(5);
        Run.four().gives("rangeClear(11, 39)", 2).text("{10=1, 40=4}");
        Run.four().gives("rangeClear(20, 20)", 1).text("{10=1, 30=3, 40=4}");
    }

    private static void promise28GoesByKeys() {
        Run.four().gives("rangeClear(10, 30)", 3).gives("undo()", 3).uses("40 30 20 10");
    }

    private static void promise28Of24() {
        Run.full().gives("rangeClear(10, 240)", 24).text("{}").gives("undo()", 24).text(Run.full().text());
        Run.full().gives("rangeClear(11, 239)", 22).text("{10=1, 240=24}").gives("undo()", 22).text(Run.full().text());
    }

    private static void promise28TheEndsOfTheInts() {
        Run.ends().gives("rangeClear(least, greatest)", 4).text("{}").gives("undo()", 4)
                .uses("2147483647 0 -1 -2147483648");
        Run.ends().gives("rangeClear(least, least)", 1).gives("rangeClear(greatest, greatest)", 1).text("{-1=4, 0=2}");
        Run.ends().gives("rangeClear(-2147483647, 2147483646)", 2).text("{-2147483648=3, 2147483647=1}");
    }

    // ---- 29: rangeSum

    private static void promise29ThrowsIfFromIsAboveTo() {
        Run.four().leaves("rangeSum(20, 19)", Run.ILLEGAL).leaves("rangeSum(40, 10)", Run.ILLEGAL)
                .leaves("rangeSum(greatest, least)", Run.ILLEGAL);
        Run.of().leaves("rangeSum(1, 0)", Run.ILLEGAL);
    }

    private static void promise29ARangeWithoutPairs() {
        Run.of().leaves("rangeSum(least, greatest)", 0);
        Run.four().leaves("rangeSum(11, 19)", 0).leaves("rangeSum(least, 9)", 0).leaves("rangeSum(41, greatest)", 0);
    }

    private static void promise29BothEndsLieInTheRange() {
        Run.four().leaves("rangeSum(10, 40)", 10).leaves("rangeSum(20, 30)", 5).leaves("rangeSum(11, 39)", 5)
                .leaves("rangeSum(40, 40)", 4);
    }

    private static void promise29TheEndsOfTheInts() {
        Run.ends().leaves("rangeSum(least, greatest)", 10).leaves("rangeSum(least, least)", 3)
                .leaves("rangeSum(greatest, greatest)", 1).leaves("rangeSum(-2147483647, 2147483646)", 6);
    }

    private static void promise29TheLeastAndTheGreatestSum() {
        fullOfLeastValues().leaves("rangeSum(least, greatest)", -23976);
        Run run = Run.of();
        for (int key = 1; key <= 24; key++) {
            run.then("put(" + key + ", 999)");
        }
        run.leaves("rangeSum(least, greatest)", 23976).leaves("rangeSum(1, 23)", 22977);
    }

    // ---- 30: rangeText

    private static void promise30ThrowsIfFromIsAboveTo() {
        Run.four().leaves("rangeText(20, 19)", Run.ILLEGAL).leaves("rangeText(40, 10)", Run.ILLEGAL)
                .leaves("rangeText(greatest, least)", Run.ILLEGAL);
        Run.of().leaves("rangeText(1, 0)", Run.ILLEGAL);
    }

    private static void promise30EmptyWithout() {
        Run.of().leaves("rangeText(least, greatest)", "");
        Run.four().leaves("rangeText(11, 19)", "").leaves("rangeText(least, 9)", "")
                .leaves("rangeText(41, greatest)", "");
    }

    private static void promise30BothEndsLieInTheRange() {
        Run.four().leaves("rangeText(20, 30)", "20=2 30=3").leaves("rangeText(11, 39)", "20=2 30=3")
                .leaves("rangeText(20, 20)", "20=2").leaves("rangeText(10, 40)", "10=1 20=2 30=3 40=4");
    }

    private static void promise30TheEndsOfTheInts() {
        Run.of("put(least, -999)", "put(greatest, 999)", "put(0, 0)")
                .leaves("rangeText(least, greatest)", "-2147483648=-999 0=0 2147483647=999")
                .leaves("rangeText(least, least)", "-2147483648=-999")
                .leaves("rangeText(greatest, greatest)", "2147483647=999")
                .leaves("rangeText(-2147483647, 2147483646)", "0=0");
    }

    // ---- 31: rangeUse

    private static void promise31ThrowsIfFromIsAboveTo() {
        Run.four().leaves("rangeUse(20, 19)", Run.ILLEGAL).leaves("rangeUse(40, 10)", Run.ILLEGAL)
                .leaves("rangeUse(greatest, least)", Run.ILLEGAL);
        Run.of().leaves("rangeUse(1, 0)", Run.ILLEGAL);
    }

    private static void promise31EmptyWithout() {
        Run.of().leaves("rangeUse(least, greatest)", "");
        Run.four().leaves("rangeUse(11, 19)", "").leaves("rangeUse(least, 9)", "").leaves("rangeUse(41, greatest)", "");
    }

    private static void promise31BothEndsLieInTheRange() {
        Run.four().leaves("rangeUse(10, 40)", "30 10 40 20").leaves("rangeUse(10, 30)", "30 10 20")
                .leaves("rangeUse(11, 39)", "30 20").leaves("rangeUse(40, 40)", "40");
    }

    private static void promise31TheEndsOfTheInts() {
        Run.ends().leaves("rangeUse(least, greatest)", "2147483647 0 -2147483648 -1")
                .leaves("rangeUse(least, least)", "-2147483648").leaves("rangeUse(greatest, greatest)", "2147483647")
                .leaves("rangeUse(-2147483647, 2147483646)", "0 -1");
    }

    // ---- 32: rangeAge

    private static void promise32ThrowsIfFromIsAboveTo() {
        Run.four().leaves("rangeAge(20, 19, false)", Run.ILLEGAL).leaves("rangeAge(40, 10, true)", Run.ILLEGAL)
                .leaves("rangeAge(greatest, least, true)", Run.ILLEGAL);
        Run.of().leaves("rangeAge(1, 0, false)", Run.ILLEGAL).leaves("rangeAge(1, 0, true)", Run.ILLEGAL);
    }

    private static void promise32ThrowsIfThereIsNone() {
        Run.of().leaves("rangeAge(least, greatest, false)", Run.STATE).leaves("rangeAge(0, 0, true)", Run.STATE);
        Run.four().leaves("rangeAge(11, 19, false)", Run.STATE).leaves("rangeAge(11, 19, true)", Run.STATE)
                .leaves("rangeAge(least, 9, true)", Run.STATE).leaves("rangeAge(41, greatest, false)", Run.STATE);
    }

    private static void promise32BothEndsLieInTheRange() {
        Run.four().leaves("rangeAge(10, 20, false)", 10).leaves("rangeAge(10, 20, true)", 20)
                .leaves("rangeAge(30, 40, false)", 30).leaves("rangeAge(30, 40, true)", 40)
                .leaves("rangeAge(11, 39, false)", 30).leaves("rangeAge(11, 39, true)", 20)
                .leaves("rangeAge(40, 40, false)", 40).leaves("rangeAge(40, 40, true)", 40);
    }

    private static void promise32TheEndsOfTheInts() {
        Run.ends().leaves("rangeAge(least, greatest, false)", Run.GREATEST)
                .leaves("rangeAge(least, greatest, true)", -1).leaves("rangeAge(least, least, true)", Run.LEAST)
                .leaves("rangeAge(greatest, greatest, true)", Run.GREATEST)
                .leaves("rangeAge(least, 2147483646, false)", 0);
    }
}
