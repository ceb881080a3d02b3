/** The edges of promises 15 to 22, a test each: the PAIRS BY KEYS. */
public final class EdgesOfKeysTest {
    private EdgesOfKeysTest() {
    }

    public static void main(String[] args) {
        Run.tests(EdgesOfKeysTest.class, 15, 22);
    }

    // ---- 15: first

    private static void promise15ThrowsIfThereIsNone() {
        Run.of().leaves("first(false)", Run.STATE).leaves("first(true)", Run.STATE);
        Run.four().then("clear()").leaves("first(false)", Run.STATE).leaves("first(true)", Run.STATE);
    }

    private static void promise15OfOnePair() {
        Run.of("put(7, 0)").leaves("first(false)", 7).leaves("first(true)", 7);
    }

    private static void promise15Of24() {
        Run.full().leaves("first(false)", 10).leaves("first(true)", 240);
    }

    private static void promise15KeysAtTheEndsOfTheInts() {
        Run.ends().leaves("first(false)", Run.LEAST).leaves("first(true)", Run.GREATEST);
    }

    // ---- 16: near

    private static void promise16HowTooSmallAndTooLarge() {
        Run.four().leaves("near(20, -1)", Run.ILLEGAL).leaves("near(20, 4)", Run.ILLEGAL)
                .leaves("near(20, least)", Run.ILLEGAL).leaves("near(20, greatest)", Run.ILLEGAL);
    }

    private static void promise16HowIsLookedAtFirst() {
        Run.of().leaves("near(20, -1)", Run.ILLEGAL).leaves("near(20, 4)", Run.ILLEGAL);
    }

    private static void promise16How0IsBelow() {
        Run.four().leaves("near(20, 0)", 10).leaves("near(21, 0)", 20).leaves("near(11, 0)", 10)
                .leaves("near(10, 0)", Run.STATE);
    }

    private static void promise16How1IsNotAbove() {
        Run.four().leaves("near(20, 1)", 20).leaves("near(19, 1)", 10).leaves("near(10, 1)", 10)
                .leaves("near(9, 1)", Run.STATE);
    }

    private static void promise16How2IsNotBelow() {
        Run.four().leaves("near(20, 2)", 20).leaves("near(21, 2)", 30).leaves("near(40, 2)", 40)
                .leaves("near(41, 2)", Run.STATE);
    }

    private static void promise16How3IsAbove() {
        Run.four().leaves("near(20, 3)", 30).leaves("near(19, 3)", 20).leaves("near(39, 3)", 40)
                .leaves("near(40, 3)", Run.STATE);
    }

    private static void promise16ThrowsIfThereIsNone() {
        for (int how = 0; how <= 3; how++) {
            Run.of().leaves("near(0, " + how + ")", Run.STATE);
        }
    }

    private static void promise16TheEndsOfTheIntsThatAreThere() {
        Run.ends()
                .leaves("near(least, 0)", Run.STATE).leaves("near(least, 1)", Run.LEAST)
                .leaves("near(least, 2)", Run.LEAST).leaves("near(least, 3)", -1)
                .leaves("near(greatest, 0)", 0).leaves("near(greatest, 1)", Run.GREATEST)
                .leaves("near(greatest, 2)", Run.GREATEST).leaves("near(greatest, 3)", Run.STATE)
                .leaves("near(-1, 0)", Run.LEAST).leaves("near(0, 3)", Run.GREATEST);
    }

    private static void promise16TheEndsOfTheIntsThatAreNotThere() {
        Run.four()
                .leaves("near(least, 0)", Run.STATE).leaves("near(least, 1)", Run.STATE)
                .leaves("near(least, 2)", 10).leaves("near(least, 3)", 10)
                .leaves("near(greatest, 0)", 40).leaves("near(greatest, 1)", 40)
                .leaves("near(greatest, 2)", Run.STATE).leaves("near(greatest, 3)", Run.STATE);
    }

    // ---- 17: nearValue

    private static void promise17HowTooSmallAndTooLarge() {
        Run.four().leaves("nearValue(20, -1)", Run.ILLEGAL).leaves("nearValue(20, 4)", Run.ILLEGAL)
                .leaves("nearValue(20, least)", Run.ILLEGAL).leaves("nearValue(20, greatest)", Run.ILLEGAL);
        Run.of().leaves("nearValue(20, -1)", Run.ILLEGAL).leaves("nearValue(20, 4)", Run.ILLEGAL);
    }

    private static void promise17ReturnsNoneWithout() {
        for (int how = 0; how <= 3; how++) {
            Run.of().leaves("nearValue(0, " + how + ")", Run.NONE);
        }
        Run.four().leaves("nearValue(10, 0)", Run.NONE).leaves("nearValue(9, 1)", Run.NONE)
                .leaves("nearValue(41, 2)", Run.NONE).leaves("nearValue(40, 3)", Run.NONE);
    }

    private static void promise17EachHow() {
        Run.four().leaves("nearValue(20, 0)", 1).leaves("nearValue(20, 1)", 2).leaves("nearValue(20, 2)", 2)
                .leaves("nearValue(20, 3)", 3).leaves("nearValue(10, 1)", 1).leaves("nearValue(40, 2)", 4);
    }

    private static void promise17TheEndsOfTheInts() {
        Run.ends()
                .leaves("nearValue(least, 0)", Run.NONE).leaves("nearValue(least, 1)", 3)
                .leaves("nearValue(least, 2)", 3).leaves("nearValue(least, 3)", 4)
                .leaves("nearValue(greatest, 0)", 2).leaves("nearValue(greatest, 1)", 1)
                .leaves("nearValue(greatest, 2)", 1).leaves("nearValue(greatest, 3)", Run.NONE);
    }

    private static void promise17ItIsNotUsed() {
        Run.four().leaves("nearValue(30, 1)", 3).uses("30 10 40 20");
    }

    // ---- 18: poll

    private static void promise18ThrowsIfThereIsNone() {
        Run.of().leaves("poll(false)", Run.STATE).leaves("poll(true)", Run.STATE);
        Run.of("put(7, 0)").gives("poll(true)", 7).leaves("poll(true)", Run.STATE).steps(2);
    }

    private static void promise18TheLastPairGoes() {
        Run.of("put(7, 0)").gives("poll(false)", 7).text("{}").uses("").steps(2);
    }

    private static void promise18Of24() {
        Run.full().gives("poll(false)", 10).gives("poll(true)", 240).gives("size()", 22)
                .gives("first(false)", 20).gives("first(true)", 230);
    }

    private static void promise18KeysAtTheEndsOfTheInts() {
        Run.ends().gives("poll(false)", Run.LEAST).gives("poll(true)", Run.GREATEST).text("{-1=4, 0=2}").uses("0 -1")
                .steps(6);
    }

    // ---- 19 to 21: keys, values, text

    private static void promise19EmptyWithout() {
        Run.of().leaves("keys(false)", "").leaves("keys(true)", "");
        Run.four().then("clear()").leaves("keys(false)", "").leaves("keys(true)", "");
    }

    private static void promise19OfOnePair() {
        Run.of("put(-7, 0)").leaves("keys(false)", "-7").leaves("keys(true)", "-7");
    }

    private static void promise19Of24() {
        Run.full()
                .leaves("keys(false)",
                        "10 20 30 40 50 60 70 80 90 100 110 120 130 140 150 160 170 180 190 200 210 220 230 240")
                .leaves("keys(true)",
                        "240 230 220 210 200 190 180 170 160 150 140 130 120 110 100 90 80 70 60 50 40 30 20 10");
    }

    private static void promise19KeysAtTheEndsOfTheInts() {
        Run.ends().leaves("keys(false)", "-2147483648 -1 0 2147483647")
                .leaves("keys(true)", "2147483647 0 -1 -2147483648");
    }

    private static void promise20EmptyWithout() {
        Run.of().leaves("values()", "");
    }

    private static void promise20OfOnePair() {
        Run.of("put(7, 0)").leaves("values()", "0");
    }

    private static void promise20TheLeastAndTheGreatestValue() {
        Run.of("put(2, 999)", "put(1, -999)", "put(3, 999)").leaves("values()", "-999 999 999");
    }

    private static void promise20Of24() {
        Run.full().leaves("values()", "1 2 3 4 5 6 7 8 9 10 11 12 13 14 15 16 17 18 19 20 21 22 23 24");
    }

    private static void promise21TwoSignsWithout() {
        Run.of().leaves("text()", "{}");
        Run.four().then("clear()").leaves("text()", "{}");
    }

    private static void promise21OfOnePair() {
        Run.of("put(-7, -1)").leaves("text()", "{-7=-1}");
    }

    private static void promise21TheEndsOfTheIntsAndOfTheValues() {
        Run.of("put(greatest, 999)", "put(least, -999)").leaves("text()", "{-2147483648=-999, 2147483647=999}");
    }

    private static void promise21Of24() {
        Run.full().leaves("text()", "{10=1, 20=2, 30=3, 40=4, 50=5, 60=6, 70=7, 80=8, 90=9, 100=10, 110=11, 120=12,"
                + " 130=13, 140=14, 150=15, 160=16, 170=17, 180=18, 190=19, 200=20, 210=21, 220=22, 230=23, 240=24}");
    }

    // ---- 22: hash

    private static void promise22OfNoPairs() {
        Run.of().leaves("hash()", 0);
        Run.four().then("clear()").leaves("hash()", 0);
    }

    private static void promise22ExclusiveOrOfNumbersBelow0() {
        Run.of("put(-1, -1)").leaves("hash()", 0);
        Run.of("put(-1, 0)").leaves("hash()", -1);
        Run.of("put(0, -999)").leaves("hash()", -999);
        Run.of("put(5, -6)").leaves("hash()", -1);
        Run.of("put(6, 3)").leaves("hash()", 5);
    }

    private static void promise22WrapsAroundAboveTheGreatestInt() {
        Run.of("put(greatest, 0)", "put(1, 0)").leaves("hash()", Run.LEAST);
        Run.of("put(greatest, 0)", "put(2147483646, 0)").leaves("hash()", -3);
    }

    private static void promise22WrapsAroundBelowTheLeastInt() {
        Run.of("put(least, 0)", "put(-1, 0)").leaves("hash()", Run.GREATEST);
        Run.of("put(least, 0)", "put(-2147483647, 0)").leaves("hash()", 1);
        Run.of("put(least, -999)", "put(-2147483647, 0)").leaves("hash()", 2147482649 + -2147483647);
    }

    private static void promise22DoesNotHangOnUse() {
        Run.four().leaves("hash()", (10 ^ 1) + (20 ^ 2) + (30 ^ 3) + (40 ^ 4))
                .then("get(30)", "get(10)").leaves("hash()", (10 ^ 1) + (20 ^ 2) + (30 ^ 3) + (40 ^ 4));
    }
}
