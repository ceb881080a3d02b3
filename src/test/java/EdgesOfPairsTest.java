/** The edges of promises 1 to 14, a test each: a new object, and single PAIRS. */
public final class EdgesOfPairsTest {
    private EdgesOfPairsTest() {
    }

    public static void main(String[] args) {
        Run.tests(EdgesOfPairsTest.class, 1, 14);
    }

    // ---- 1: a new object

    private static void promise1HasNoPairs() {
        Run.of().leaves("size()", 0).leaves("house(0)", 0).leaves("keys(false)", "").leaves("text()", "{}")
                .leaves("uses()", "").leaves("clear()", 0);
    }

    private static void promise1HasNoSteps() {
        Run.of().leaves("steps()", 0).leaves("house(1)", 0).leaves("undo()", Run.REFUSED).leaves("forget()", 0);
    }

    private static void promise1HasNoMarks() {
        Run run = Run.of().leaves("house(3)", 0);
        for (int pager = 0; pager <= 2; pager++) {
            run.leaves("ofPager(" + pager + ", 0)", 0).leaves("ofPager(" + pager + ", 2)", 0)
                    .leaves("ofPager(" + pager + ", 3)", 0);
        }
    }

    private static void promise1TheCopyHasNoPairs() {
        Run.of().leaves("house(2)", 0).leaves("isCopy()", true).leaves("apart()", 0).leaves("back()", 0);
        Run.four().leaves("house(2)", 0).leaves("isCopy()", false).leaves("apart()", 4).gives("back()", 4).text("{}");
    }

    private static void promise1EachObjectHasItsOwn() {
        Run one = Run.of();
        Run.four().then("copy()", "next(0, 1)", "knock()");
        one.leaves("digest()", Check.digestOf(0, 0, 0, 0, 0, 0, 0, 0, 0, 0, 0, 0, 0, 0, 0, 0, 0, 0, 2, 0, 1));
    }

    // ---- 2: put

    private static void promise2ValuesTooSmallAndTooLarge() {
        Run.four().leaves("put(10, -1000)", Run.ILLEGAL).leaves("put(10, 1000)", Run.ILLEGAL)
                .leaves("put(15, -1000)", Run.ILLEGAL).leaves("put(15, 1000)", Run.ILLEGAL)
                .leaves("put(15, least)", Run.ILLEGAL).leaves("put(15, greatest)", Run.ILLEGAL);
    }

    private static void promise2TheLeastAndTheGreatestValue() {
        Run.four().gives("put(10, -999)", 1).gives("put(15, 999)", Run.NONE)
                .gives("put(10, 999)", -999).gives("put(15, -999)", 999).text("{10=999, 15=-999, 20=2, 30=3, 40=4}");
    }

    private static void promise2ReturnsNoneWithoutOneBefore() {
        Run.of().gives("put(0, 0)", Run.NONE).gives("put(0, 0)", 0).then("clear()").gives("put(0, 0)", Run.NONE);
    }

    private static void promise2TheSameValueIsAUseAndNoStep() {
        Run.four().gives("put(30, 3)", 3).uses("10 40 20 30").steps(4);
    }

    private static void promise2The24thPairComes() {
        Run.full().then("remove(10)").gives("put(5, 0)", Run.NONE).gives("size()", 24).steps(12);
    }

    private static void promise2AKeyThatIsThereOf24() {
        Run.full().gives("put(10, 999)", 1).gives("aged(true)", 10).gives("put(240, 24)", 24).gives("aged(true)", 240)
                .gives("size()", 24);
    }

    private static void promise2AKeyThatIsNotThereOf24() {
        Run.full().leaves("put(5, 0)", Run.STATE).leaves("put(245, 0)", Run.STATE)
                .leaves("put(least, 0)", Run.STATE).leaves("put(greatest, 0)", Run.STATE);
    }

    private static void promise2TheValueIsLookedAtFirst() {
        Run.full().leaves("put(5, 1000)", Run.ILLEGAL).leaves("put(5, -1000)", Run.ILLEGAL);
    }

    private static void promise2KeysAtTheEndsOfTheInts() {
        Run.of("put(0, 0)").gives("put(least, 1)", Run.NONE).gives("put(greatest, 2)", Run.NONE)
                .gives("put(least, 3)", 1).gives("put(greatest, 4)", 2)
                .text("{-2147483648=3, 0=0, 2147483647=4}").uses("0 -2147483648 2147483647");
    }

    // ---- 3: putNew

    private static void promise3ValuesTooSmallAndTooLarge() {
        Run.four().leaves("putNew(10, -1000)", Run.ILLEGAL).leaves("putNew(10, 1000)", Run.ILLEGAL)
                .leaves("putNew(15, -1000)", Run.ILLEGAL).leaves("putNew(15, 1000)", Run.ILLEGAL)
                .leaves("putNew(15, least)", Run.ILLEGAL).leaves("putNew(15, greatest)", Run.ILLEGAL);
    }

    private static void promise3TheLeastAndTheGreatestValue() {
        Run.of().gives("putNew(1, -999)", Run.NONE).gives("putNew(2, 999)", Run.NONE)
                .gives("putNew(1, 999)", -999).gives("putNew(2, -999)", 999).text("{1=-999, 2=999}");
    }

    private static void promise3OneThatIsThereIsUsedAlone() {
        Run.four().gives("putNew(30, 9)", 3).text("{10=1, 20=2, 30=3, 40=4}").uses("10 40 20 30").steps(4);
    }

    private static void promise3AKeyThatIsThereOf24() {
        Run.full().gives("putNew(10, 999)", 1).gives("aged(true)", 10).gives("look(10)", 1).gives("size()", 24);
    }

    private static void promise3AKeyThatIsNotThereOf24() {
        Run.full().leaves("putNew(5, 0)", Run.STATE).leaves("putNew(245, 0)", Run.STATE);
        Run.full().then("remove(120)").gives("putNew(5, 0)", Run.NONE).gives("size()", 24);
    }

    private static void promise3TheValueIsLookedAtFirst() {
        Run.full().leaves("putNew(5, 1000)", Run.ILLEGAL).leaves("putNew(10, -1000)", Run.ILLEGAL);
    }

    private static void promise3KeysAtTheEndsOfTheInts() {
        Run.of("put(0, 0)").gives("putNew(least, 1)", Run.NONE).gives("putNew(greatest, 2)", Run.NONE)
                .gives("putNew(least, 3)", 1).gives("putNew(greatest, 4)", 2)
                .text("{-2147483648=1, 0=0, 2147483647=2}");
    }

    // ---- 4: replace

    private static void promise4ValuesTooSmallAndTooLarge() {
        Run.four().leaves("replace(10, -1000)", Run.ILLEGAL).leaves("replace(10, 1000)", Run.ILLEGAL)
                .leaves("replace(10, least)", Run.ILLEGAL).leaves("replace(10, greatest)", Run.ILLEGAL);
    }

    private static void promise4ValuesTooSmallAndTooLargeOfNoPair() {
        Run.of().leaves("replace(15, -1000)", Run.ILLEGAL).leaves("replace(15, 1000)", Run.ILLEGAL);
    }

    private static void promise4TheLeastAndTheGreatestValue() {
        Run.four().gives("replace(10, -999)", 1).gives("replace(10, 999)", -999).gives("look(10)", 999);
    }

    private static void promise4ReturnsNoneIfItIsNotThere() {
        Run.of().leaves("replace(0, 0)", Run.NONE);
        Run.four().leaves("replace(15, 0)", Run.NONE).leaves("replace(least, 0)", Run.NONE);
        Run.full().leaves("replace(5, 0)", Run.NONE);
    }

    private static void promise4TheSameValueIsAUseAndNoStep() {
        Run.four().gives("replace(30, 3)", 3).uses("10 40 20 30").steps(4);
    }

    private static void promise4AKeyThatIsThereOf24() {
        Run.full().gives("replace(10, 5)", 1).gives("aged(true)", 10).gives("size()", 24);
    }

    private static void promise4KeysAtTheEndsOfTheInts() {
        Run.ends().gives("replace(least, 7)", 3).gives("replace(greatest, 8)", 1)
                .text("{-2147483648=7, -1=4, 0=2, 2147483647=8}").uses("0 -1 -2147483648 2147483647").steps(6);
    }

    // ---- 5: replaceIf

    private static void promise5ValuesTooSmallAndTooLarge() {
        Run.four().leaves("replaceIf(10, 1, -1000)", Run.ILLEGAL).leaves("replaceIf(10, 1, 1000)", Run.ILLEGAL)
                .leaves("replaceIf(10, 1, least)", Run.ILLEGAL).leaves("replaceIf(10, 1, greatest)", Run.ILLEGAL);
    }

    private static void promise5ValuesTooSmallAndTooLargeWhereItWouldNotBeDone() {
        Run.four().leaves("replaceIf(10, 2, -1000)", Run.ILLEGAL).leaves("replaceIf(15, 1, 1000)", Run.ILLEGAL);
    }

    private static void promise5TheLeastAndTheGreatestValue() {
        Run.four().gives("replaceIf(10, 1, -999)", true).gives("replaceIf(10, -999, 999)", true)
                .gives("replaceIf(10, 999, 0)", true).gives("look(10)", 0).steps(7);
    }

    private static void promise5OldMayBeAnyNumber() {
        Run.four().leaves("replaceIf(10, 1000, 5)", false).leaves("replaceIf(10, -1000, 5)", false)
                .leaves("replaceIf(10, least, 5)", false).leaves("replaceIf(10, greatest, 5)", false);
    }

    private static void promise5IsNotDoneWithAnotherValue() {
        Run.four().leaves("replaceIf(10, 0, 5)", false).leaves("replaceIf(10, 2, 2)", false);
    }

    private static void promise5IsNotDoneIfItIsNotThere() {
        Run.of().leaves("replaceIf(0, 0, 0)", false).leaves("replaceIf(0, -1000, 0)", false);
        Run.full().leaves("replaceIf(5, 1, 0)", false);
    }

    private static void promise5TheSameValueIsDoneAsAUseAndNoStep() {
        Run.four().gives("replaceIf(30, 3, 3)", true).uses("10 40 20 30").steps(4);
    }

    private static void promise5KeysAtTheEndsOfTheInts() {
        Run.ends().gives("replaceIf(least, 3, 7)", true).gives("replaceIf(greatest, 1, 8)", true)
                .text("{-2147483648=7, -1=4, 0=2, 2147483647=8}").uses("0 -1 -2147483648 2147483647").steps(6);
    }

    // ---- 6: remove

    private static void promise6ReturnsNoneIfItIsNotThere() {
        Run.of().leaves("remove(0)", Run.NONE);
        Run.four().leaves("remove(15)", Run.NONE).leaves("remove(1)", Run.NONE).leaves("remove(greatest)", Run.NONE);
    }

    private static void promise6TheLastPairGoes() {
        Run.of("put(7, 0)").gives("remove(7)", 0).text("{}").uses("").steps(2).leaves("remove(7)", Run.NONE);
    }

    private static void promise6MakesRoomOf24() {
        Run.full().gives("remove(10)", 1).gives("put(5, 0)", Run.NONE).leaves("put(10, 0)", Run.STATE);
        Run.full().gives("remove(240)", 24).gives("put(5, 0)", Run.NONE).leaves("put(240, 0)", Run.STATE);
    }

    private static void promise6KeysAtTheEndsOfTheInts() {
        Run.ends().gives("remove(least)", 3).gives("remove(greatest)", 1).text("{-1=4, 0=2}").uses("0 -1");
    }

    // ---- 7: removeIf

    private static void promise7DoesNotGoWithAnotherValue() {
        Run.four().leaves("removeIf(10, 2)", false).leaves("removeIf(10, 0)", false)
                .leaves("removeIf(10, least)", false).leaves("removeIf(10, greatest)", false);
    }

    private static void promise7DoesNotGoIfItIsNotThere() {
        Run.of().leaves("removeIf(0, 0)", false).leaves("removeIf(0, -1000)", false);
        Run.four().leaves("removeIf(15, 1)", false).leaves("removeIf(15, -1000)", false);
    }

    private static void promise7TheLeastAndTheGreatestValue() {
        Run.of("put(1, -999)", "put(2, 999)").gives("removeIf(1, -999)", true).gives("removeIf(2, 999)", true)
                .text("{}").steps(4);
    }

    private static void promise7KeysAtTheEndsOfTheInts() {
        Run.ends().gives("removeIf(least, 3)", true).gives("removeIf(greatest, 1)", true).text("{-1=4, 0=2}");
    }

    // ---- 8: clear

    private static void promise8OfNoPairsIsNoStep() {
        Run.of().leaves("clear()", 0);
        Run.four().then("clear()").leaves("clear()", 0).steps(5);
    }

    private static void promise8Of24() {
        Run.full().gives("clear()", 24).text("{}").uses("").gives("undo()", 24).text(Run.full().text());
    }

    private static void promise8GoesByKeys() {
        Run.four().gives("clear()", 4).gives("undo()", 4).uses("40 30 20 10");
    }

    private static void promise8KeysAtTheEndsOfTheInts() {
        Run.ends().gives("clear()", 4).text("{}").gives("undo()", 4).uses("2147483647 0 -1 -2147483648");
    }

    // ---- 9, 10: get, getOr

    private static void promise9ReturnsNoneIfItIsNotThere() {
        Run.of().leaves("get(0)", Run.NONE);
        Run.four().leaves("get(15)", Run.NONE).leaves("get(least)", Run.NONE).leaves("get(greatest)", Run.NONE);
    }

    private static void promise9TheOneThatIsUsedLast() {
        Run.four().leaves("get(20)", 2).gives("get(30)", 3).uses("10 40 20 30").steps(4);
    }

    private static void promise9KeysAtTheEndsOfTheInts() {
        Run.ends().gives("get(least)", 3).gives("get(greatest)", 1).uses("0 -1 -2147483648 2147483647");
    }

    private static void promise9Of24() {
        Run.full().gives("get(10)", 1).gives("ageOf(10)", 0).gives("ageOf(20)", 23).gives("ageOf(240)", 1);
    }

    private static void promise10ReturnsOtherIfItIsNotThere() {
        Run.of().leaves("getOr(0, 0)", 0).leaves("getOr(0, -1000)", -1000).leaves("getOr(0, -9999)", -9999)
                .leaves("getOr(0, 1000)", 1000).leaves("getOr(0, least)", Run.LEAST)
                .leaves("getOr(0, greatest)", Run.GREATEST);
    }

    private static void promise10ReturnsItsValueWhateverOtherIs() {
        Run.four().gives("getOr(30, 1)", 3).gives("getOr(30, greatest)", 3).gives("getOr(30, -1000)", 3)
                .uses("10 40 20 30").steps(4);
    }

    private static void promise10KeysAtTheEndsOfTheInts() {
        Run.ends().gives("getOr(least, 0)", 3).gives("getOr(greatest, 0)", 1).uses("0 -1 -2147483648 2147483647");
    }

    // ---- 11 to 14: look, has, hasValue, size

    private static void promise11ReturnsNoneIfItIsNotThere() {
        Run.of().leaves("look(0)", Run.NONE);
        Run.four().leaves("look(15)", Run.NONE).leaves("look(least)", Run.NONE).leaves("look(greatest)", Run.NONE);
    }

    private static void promise11ItIsNotUsed() {
        Run.four().leaves("look(30)", 3).uses("30 10 40 20");
    }

    private static void promise11KeysAtTheEndsOfTheInts() {
        Run.ends().leaves("look(least)", 3).leaves("look(greatest)", 1);
    }

    private static void promise12OfNoPairs() {
        Run.of().leaves("has(0)", false).leaves("has(least)", false).leaves("has(greatest)", false);
    }

    private static void promise12KeysAtTheEndsOfTheInts() {
        Run.ends().leaves("has(least)", true).leaves("has(greatest)", true).leaves("has(-2147483647)", false)
                .leaves("has(2147483646)", false).then("remove(least)").leaves("has(least)", false);
    }

    private static void promise12APairWithAValueOf0() {
        Run.of("put(7, 0)").leaves("has(7)", true).leaves("has(0)", false);
    }

    private static void promise13OfNoPairs() {
        Run.of().leaves("hasValue(0)", false).leaves("hasValue(-1000)", false);
    }

    private static void promise13NumbersThatAreNoValues() {
        Run.full().leaves("hasValue(1000)", false).leaves("hasValue(-1000)", false).leaves("hasValue(least)", false)
                .leaves("hasValue(greatest)", false).leaves("hasValue(240)", false);
    }

    private static void promise13TheLeastAndTheGreatestValue() {
        Run.of("put(1, -999)", "put(2, 999)").leaves("hasValue(-999)", true).leaves("hasValue(999)", true)
                .then("remove(1)").leaves("hasValue(-999)", false);
    }

    private static void promise13Of24() {
        Run.full().leaves("hasValue(1)", true).leaves("hasValue(24)", true).leaves("hasValue(25)", false)
                .leaves("hasValue(0)", false);
    }

    private static void promise14OfNoPairs() {
        Run.of().leaves("size()", 0).then("put(1, 1)", "remove(1)").leaves("size()", 0);
    }

    private static void promise14Of24() {
        Run.full().leaves("size()", 24).leaves("put(5, 0)", Run.STATE).leaves("size()", 24);
    }
}
