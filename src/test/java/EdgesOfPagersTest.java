/** The edges of promises 38 to 40, a test each: PAGERS. */
public final class EdgesOfPagersTest {
    private EdgesOfPagersTest() {
    }

    public static void main(String[] args) {
        Run.tests(EdgesOfPagersTest.class, 38, 40);
    }

    // ---- 38: page

    private static void promise38PagerTooSmallAndTooLarge() {
        Run.four().then("next(0, 1)", "next(2, 2)").leaves("page(-1)", Run.BOUNDS).leaves("page(3)", Run.BOUNDS)
                .leaves("page(least)", Run.BOUNDS).leaves("page(greatest)", Run.BOUNDS);
    }

    private static void promise38TheFirstAndTheLastPager() {
        Run.four().then("next(0, 1)", "next(1, 2)", "next(2, 3)").gives("page(0)", 1).gives("page(2)", 3)
                .gives("house(3)", 1).gives("ofPager(1, 3)", 20).gives("page(1)", 2).gives("house(3)", 0);
    }

    private static void promise38OfAPagerThatHasToldNone() {
        Run.of().leaves("page(0)", 0).then("next(0, 24)").leaves("page(0)", 0);
        Run.four().leaves("page(2)", 0).then("next(2, 1)", "page(2)").leaves("page(2)", 0);
    }

    private static void promise38CountsSinceItBeganLast() {
        Run.four().then("next(0, 3)", "next(0, 3)").gives("page(0)", 4).then("next(0, 2)").gives("page(0)", 2)
                .gives("page(0)", 0);
    }

    private static void promise38CountsKeysThatHaveGone() {
        Run.four().then("next(0, 3)", "clear()").gives("page(0)", 3);
    }

    private static void promise38TheMarkIsNoneAfterIt() {
        Run.ends().then("next(1, 24)").gives("ofPager(1, 3)", Run.GREATEST).gives("page(1)", 4)
                .gives("ofPager(1, 2)", 0).gives("ofPager(1, 3)", 0).gives("ofPager(1, 1)", 4)
                .gives("next(1, 1)", "-2147483648");
    }

    private static void promise38IsNoStep() {
        Run.four().then("next(0, 2)", "page(0)").steps(4).uses("30 10 40 20");
    }

    // ---- 39: next

    private static void promise39PagerTooSmallAndTooLarge() {
        Run.four().leaves("next(-1, 1)", Run.BOUNDS).leaves("next(3, 1)", Run.BOUNDS)
                .leaves("next(least, 24)", Run.BOUNDS).leaves("next(greatest, 24)", Run.BOUNDS);
    }

    private static void promise39ManyTooSmallAndTooLarge() {
        Run.four().leaves("next(0, 0)", Run.ILLEGAL).leaves("next(0, 25)", Run.ILLEGAL)
                .leaves("next(2, -1)", Run.ILLEGAL)
                .leaves("next(1, least)", Run.ILLEGAL).leaves("next(1, greatest)", Run.ILLEGAL);
        Run.of().leaves("next(0, 0)", Run.ILLEGAL).leaves("next(0, 25)", Run.ILLEGAL);
    }

    private static void promise39ThePagerIsLookedAtFirst() {
        Run.four().leaves("next(-1, 0)", Run.BOUNDS).leaves("next(3, 25)", Run.BOUNDS);
    }

    private static void promise39TheFirstAndTheLastPager() {
        Run.four().gives("next(0, 1)", "10").gives("next(2, 2)", "10 20").gives("next(1, 1)", "10")
                .gives("next(0, 1)", "20").gives("ofPager(1, 3)", 10);
    }

    private static void promise39TheLeastAndTheGreatestMany() {
        Run.full().gives("next(0, 1)", "10").gives("next(1, 24)",
                "10 20 30 40 50 60 70 80 90 100 110 120 130 140 150 160 170 180 190 200 210 220 230 240")
                .leaves("next(1, 1)", "").gives("ofPager(1, 0)", 24);
    }

    private static void promise39MoreThanAreLeft() {
        Run.four().gives("next(0, 3)", "10 20 30").gives("next(0, 3)", "40").gives("ofPager(0, 0)", 4);
    }

    private static void promise39OfNoPairs() {
        Run.of().leaves("next(0, 1)", "").leaves("next(2, 24)", "");
    }

    private static void promise39TheMarkStaysIfItTellsNone() {
        Run.four().then("next(0, 24)").leaves("next(0, 24)", "").gives("ofPager(0, 3)", 40)
                .then("put(50, 0)").gives("next(0, 1)", "50").gives("ofPager(0, 3)", 50);
    }

    private static void promise39TheMarkStaysWhereItsKeyHasGone() {
        Run.four().then("next(0, 2)", "remove(20)", "put(19, 0)", "put(21, 0)").gives("next(0, 1)", "21");
    }

    private static void promise39WithoutAMarkWithAll() {
        Run.ends().gives("next(0, 24)", "-2147483648 -1 0 2147483647");
        Run.ends().then("next(0, 24)", "page(0)").gives("next(0, 24)", "-2147483648 -1 0 2147483647");
    }

    private static void promise39AMarkAtTheLeastInt() {
        Run.ends().gives("next(0, 1)", "-2147483648").gives("ofPager(0, 3)", Run.LEAST).gives("ofPager(0, 2)", 1)
                .gives("next(0, 1)", "-1");
    }

    private static void promise39AMarkAtTheGreatestInt() {
        Run.ends().then("next(0, 24)").gives("ofPager(0, 3)", Run.GREATEST).leaves("next(0, 24)", "")
                .then("remove(greatest)").leaves("next(0, 24)", "").gives("ofPager(0, 3)", Run.GREATEST);
    }

    private static void promise39AMarkOf0IsAMark() {
        Run.of("put(0, 0)", "put(5, 0)", "put(-5, 0)").gives("next(0, 2)", "-5 0").gives("ofPager(0, 3)", 0)
                .gives("ofPager(0, 2)", 1).gives("next(0, 2)", "5");
    }

    private static void promise39IsNoUseAndNoStep() {
        Run.four().then("next(0, 24)").uses("30 10 40 20").steps(4);
    }

    // ---- 40: ofPager

    private static void promise40PagerTooSmallAndTooLarge() {
        for (int what = 0; what <= 3; what++) {
            Run.four().leaves("ofPager(-1, " + what + ")", Run.BOUNDS).leaves("ofPager(3, " + what + ")", Run.BOUNDS)
                    .leaves("ofPager(least, " + what + ")", Run.BOUNDS)
                    .leaves("ofPager(greatest, " + what + ")", Run.BOUNDS);
        }
    }

    private static void promise40WhatTooSmallAndTooLarge() {
        for (int pager = 0; pager <= 2; pager++) {
            Run.four().leaves("ofPager(" + pager + ", -1)", Run.ILLEGAL)
                    .leaves("ofPager(" + pager + ", 4)", Run.ILLEGAL)
                    .leaves("ofPager(" + pager + ", least)", Run.ILLEGAL)
                    .leaves("ofPager(" + pager + ", greatest)", Run.ILLEGAL);
        }
    }

    private static void promise40ThePagerIsLookedAtFirst() {
        Run.four().leaves("ofPager(-1, -1)", Run.BOUNDS).leaves("ofPager(3, 4)", Run.BOUNDS);
    }

    private static void promise40TheFirstAndTheLastPager() {
        Run.four().then("next(0, 1)", "next(2, 3)").leaves("ofPager(0, 0)", 1).leaves("ofPager(1, 0)", 0)
                .leaves("ofPager(2, 0)", 3).leaves("ofPager(0, 3)", 10).leaves("ofPager(2, 3)", 30)
                .leaves("ofPager(0, 1)", 3).leaves("ofPager(1, 1)", 4).leaves("ofPager(2, 1)", 1);
    }

    private static void promise40What0OfNone() {
        Run.of().leaves("ofPager(0, 0)", 0).then("next(0, 24)").leaves("ofPager(0, 0)", 0);
    }

    private static void promise40What1OfNoPairs() {
        Run.of().leaves("ofPager(0, 1)", 0);
        Run.four().then("next(0, 1)", "clear()").leaves("ofPager(0, 1)", 0).leaves("ofPager(1, 1)", 0);
    }

    private static void promise40What1Of24() {
        Run.full().leaves("ofPager(0, 1)", 24).then("next(0, 23)").leaves("ofPager(0, 1)", 1)
                .then("next(0, 1)").leaves("ofPager(0, 1)", 0);
    }

    private static void promise40What1IsLeftNow() {
        Run.four().then("next(0, 2)").leaves("ofPager(0, 1)", 2).then("remove(40)").leaves("ofPager(0, 1)", 1)
                .then("put(19, 0)").leaves("ofPager(0, 1)", 1).then("put(21, 0)").leaves("ofPager(0, 1)", 2);
    }

    private static void promise40What1WithAMarkAtTheEndsOfTheInts() {
        Run.ends().leaves("ofPager(0, 1)", 4).then("next(0, 1)").leaves("ofPager(0, 1)", 3)
                .then("next(0, 24)").leaves("ofPager(0, 1)", 0);
    }

    private static void promise40What2And3Without() {
        Run.four().leaves("ofPager(1, 2)", 0).leaves("ofPager(1, 3)", 0).then("next(1, 1)", "page(1)")
                .leaves("ofPager(1, 2)", 0).leaves("ofPager(1, 3)", 0);
    }

    private static void promise40What2And3WithAMarkOf0() {
        Run.of("put(0, 0)", "next(1, 1)").leaves("ofPager(1, 2)", 1).leaves("ofPager(1, 3)", 0);
    }

    private static void promise40What3AtTheEndsOfTheInts() {
        Run.ends().then("next(1, 1)").leaves("ofPager(1, 3)", Run.LEAST).leaves("ofPager(1, 2)", 1)
                .then("next(1, 24)").leaves("ofPager(1, 3)", Run.GREATEST);
    }
}
