/** The edges of promises 48 to 51, a test each: the whole. */
public final class EdgesOfWholeTest {
    private static final int BY_USE = 0;

    private EdgesOfWholeTest() {
    }

    public static void main(String[] args) {
        Run.tests(EdgesOfWholeTest.class, 48, 51);
    }

    // ---- 48: house

    private static void promise48WhatTooSmallAndTooLarge() {
        Run.four().leaves("house(-1)", Run.ILLEGAL).leaves("house(5)", Run.ILLEGAL).leaves("house(least)", Run.ILLEGAL)
                .leaves("house(greatest)", Run.ILLEGAL);
        Run.of().leaves("house(-1)", Run.ILLEGAL).leaves("house(5)", Run.ILLEGAL);
    }

    private static void promise48OfANewObject() {
        for (int what = 0; what <= 4; what++) {
            Run.of().leaves("house(" + what + ")", 0);
        }
    }

    private static void promise48Of24Pairs() {
        Run.full().leaves("house(0)", 24).then("clear()").leaves("house(0)", 0);
    }

    private static void promise48OfMoreThan12Steps() {
        Run.full().leaves("house(1)", 12).then("undo()").leaves("house(1)", 11).then("forget()").leaves("house(1)", 0);
    }

    private static void promise48OfACopyOf24AndOfNone() {
        Run.full().leaves("house(2)", 0).then("copy()", "clear()").leaves("house(2)", 24)
                .then("copy()").leaves("house(2)", 0);
    }

    private static void promise48OfAllPagersAndOfNone() {
        Run.four().leaves("house(3)", 0).then("next(0, 1)").leaves("house(3)", 1)
                .then("next(1, 1)").leaves("house(3)", 2).then("next(2, 1)").leaves("house(3)", 3)
                .then("page(0)", "page(1)", "page(2)").leaves("house(3)", 0);
    }

    private static void promise48OfAPagerWhoseMarkIs0() {
        Run.of("put(0, 0)", "next(1, 1)").leaves("house(3)", 1).then("clear()").leaves("house(3)", 1);
    }

    private static void promise48OfAPagerThatToldNone() {
        Run.of("next(1, 24)").leaves("house(3)", 0);
    }

    // ---- 49: knock

    private static void promise49TheFirst() {
        Run.of().leaves("house(4)", 0).gives("knock()", 1).leaves("house(4)", 1).gives("knock()", 2);
    }

    private static void promise49IsNeverTakenBack() {
        Run.four().gives("knock()", 1).then("undo()", "forget()", "copy()", "clear()", "back()", "page(0)")
                .gives("knock()", 2).leaves("house(4)", 2);
    }

    private static void promise49IsNoStepAndNoUse() {
        Run.four().then("knock()").steps(4).uses("30 10 40 20").text("{10=1, 20=2, 30=3, 40=4}");
    }

    private static void promise49As512Calls() {
        Run run = Run.of();
        for (int time = 1; time <= 512; time++) {
            run.gives("knock()", time);
        }
    }

    // ---- 50: isSound

    private static void promise50OfNoPairs() {
        Run.of().leaves("isSound()", true);
        Run.four().then("clear()").leaves("isSound()", true);
    }

    private static void promise50OfOnePair() {
        Run.of("put(0, 0)").leaves("isSound()", true);
        Run.of("put(least, -999)").leaves("isSound()", true);
        Run.of("put(greatest, 999)").leaves("isSound()", true);
    }

    private static void promise50KeysAtTheEndsOfTheInts() {
        Run.ends().leaves("isSound()", true).then("put(-2147483647, 0)", "put(2147483646, 0)")
                .leaves("isSound()", true);
    }

    private static void promise50Of24() {
        Run.full().leaves("isSound()", true).then("get(10)", "undo()").leaves("isSound()", true);
    }

    private static void promise50AfterTheSumWrapsAround() {
        Run.of("put(greatest, 0)", "put(2147483646, 0)", "put(2147483645, 0)").leaves("isSound()", true);
    }

    private static void promise50WhateverTheCopyThatIsKept() {
        Run.four().then("copy()", "keep(1)", "put(5, 5)").leaves("isSound()", true).leaves("apart()", 4)
                .leaves("house(2)", 4);
    }

    // ---- 51: digest

    private static void promise51OfANewObject() {
        Run.of().leaves("digest()", digest(new int[] {0, 0, 0, 0, 0}, new int[][] {{}}, new int[12], 0, 2, 0));
    }

    private static void promise51OfKeysAtTheEndsOfTheInts() {
        Run.of("put(greatest, -999)", "put(least, 999)").leaves("digest()", digest(new int[] {2, 2, 0, 0, 0},
                new int[][] {{Run.GREATEST, Run.LEAST}, {Run.LEAST, 999}, {Run.GREATEST, -999}},
                new int[] {0, 2, 0, 0, 0, 2, 0, 0, 0, 2, 0, 0},
                -2147482649 - 2147482650, "{-2147483648=999, 2147483647=-999}".length(), 2));
    }

    private static void promise51OfEachPager() {
        Run.of("put(0, 0)", "put(1, 1)", "next(0, 1)", "next(1, 2)").leaves("digest()", digest(
                new int[] {2, 2, 0, 2, 0}, new int[][] {{0, 1}, {0, 0}, {1, 1}},
                new int[] {1, 1, 1, 0, 2, 0, 1, 1, 0, 2, 0, 0}, 0, 10, 2));
    }

    private static void promise51OfMarksAtTheEndsOfTheInts() {
        Run.ends().then("next(0, 1)", "next(1, 4)").leaves("digest()", digest(new int[] {4, 4, 0, 2, 0},
                new int[][] {{Run.GREATEST, 0, Run.LEAST, -1}, {Run.LEAST, 3}, {-1, 4}, {0, 2}, {Run.GREATEST, 1}},
                new int[] {1, 3, 1, Run.LEAST, 4, 0, 1, Run.GREATEST, 0, 4, 0, 0},
                (Run.LEAST + 3) + (-1 ^ 4) + 2 + (Run.GREATEST ^ 1), 40, 4));
    }

    private static void promise51TellsUsesApart() {
        Run.of("put(1, 0)", "put(2, 0)", "get(1)").leaves("digest()", digest(new int[] {2, 2, 0, 0, 0},
                new int[][] {{2, 1}, {1, 0}, {2, 0}}, new int[] {0, 2, 0, 0, 0, 2, 0, 0, 0, 2, 0, 0}, 3, 10, 2));
    }

    private static void promise51TellsTheCopyAndKnocksApart() {
        Run.of("put(1, 0)", "copy()", "put(1, 5)", "knock()", "knock()").leaves("digest()", digest(
                new int[] {1, 2, 1, 0, 2}, new int[][] {{1}, {1, 5}}, new int[] {0, 1, 0, 0, 0, 1, 0, 0, 0, 1, 0, 0},
                4, 5, 1));
    }

    private static void promise51WrapsAroundOf24Pairs() {
        int[][] pairs = new int[25][];
        pairs[BY_USE] = new int[24];
        int hash = 0;
        for (int number = 1; number <= 24; number++) {
            pairs[number] = new int[] {10 * number, number};
            pairs[BY_USE][number - 1] = 10 * number;
            hash += 10 * number ^ number;
        }
        Run.full().leaves("digest()", digest(new int[] {24, 12, 0, 0, 0}, pairs,
                new int[] {0, 24, 0, 0, 0, 24, 0, 0, 0, 24, 0, 0}, hash, Run.full().text().length(), 24));
    }

    /** What is due: first the KEYS BY USE stand in a row of the pairs, then the PAIRS BY KEYS; the last number is 1. */
    private static long digest(int[] houses, int[][] pairs, int[] pagers, int hash, int signs, int apart) {
        int many = pairs.length - 1;
        long[] all = new long[houses.length + 3 * many + pagers.length + 4];
        int at = 0;
        for (int house : houses) {
            all[at++] = house;
        }
        for (int place = 1; place <= many; place++) {
            all[at++] = pairs[place][0];
            all[at++] = pairs[place][1];
        }
        for (int key : pairs[BY_USE]) {
            all[at++] = key;
        }
        for (int told : pagers) {
            all[at++] = told;
        }
        all[at++] = hash;
        all[at++] = signs;
        all[at++] = apart;
        all[at] = 1;
        return Check.digestOf(all);
    }
}
