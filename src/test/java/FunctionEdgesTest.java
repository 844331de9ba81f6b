/** "Terms", the second paragraph: each edge that it names of the functions. */
public final class FunctionEdgesTest {
    private static final long LEAST = Long.MIN_VALUE;
    private static final long GREATEST = Long.MAX_VALUE;

    public static void main(String[] args) {
        Cases.run(FunctionEdgesTest.class);
    }

    private static int[] places(int... places) {
        return places;
    }

    private static void value(int function, long want, int[] asked, long... leaves) {
        KeyGraph x = new KeyGraph();
        int key = Due.keyOver(x, function, leaves);
        Due.is("run", x.run(key), 1);
        Due.value(x, key, want);
        Due.asked(x, key, asked);
    }

    private static void fails(int function, int[] asked, long... leaves) {
        KeyGraph x = new KeyGraph();
        int key = Due.keyOver(x, function, leaves);
        Due.is("run", x.run(key), 2);
        Due.valueThrows(x, key, Due.ILLEGAL_STATE);
        Due.asked(x, key, asked);
    }

    /** A key over leaves in whose row, at one place, stands a key that fails itself. */
    private static void withAFailureAt(int place, int function, int has, int[] asked, long... leaves) {
        KeyGraph x = new KeyGraph();
        int bad = x.key(5);
        int key = x.key(function);
        for (int i = 0; i < leaves.length; i++) {
            x.asks(key, i == place ? bad : x.leaf(leaves[i]));
        }
        Due.is("run", x.run(key), has);
        Due.asked(x, key, asked);
        boolean wasAsked = false;
        for (int p : asked) {
            wasAsked |= p == place;
        }
        Due.is("the one that fails was found", x.state(bad), wasAsked ? 2 : 0);
    }

    static void t2_aFailureByAnotherAtOnce() {
        for (int function : new int[] {0, 1, 3, 4, 5}) {
            withAFailureAt(0, function, 3, places(0), 0L, 1L, 2L);
        }
        for (int function : new int[] {0, 3, 4, 5}) {
            withAFailureAt(1, function, 3, places(0, 1), 3L, 1L, 2L);
            withAFailureAt(2, function, 3, places(0, 1, 2), 3L, 1L, 2L);
        }
    }

    static void t2_aFailureByOneThatFailedByAnother() {
        KeyGraph x = new KeyGraph();
        int key = x.key(5);
        for (int function = 0; function < 6; function++) {
            int above = x.key(function);
            x.asks(above, key);
            key = above;
        }
        Due.is("run", x.run(key), 3);
        Due.is("the lowest", x.state(0), 2);
        for (int i = 1; i <= key; i++) {
            Due.is("state(" + i + ")", x.state(i), 3);
        }
    }

    static void t2_aFailureInTheEighthPlace() {
        withAFailureAt(7, 0, 3, places(0, 1, 2, 3, 4, 5, 6, 7), 1L, 2L, 3L, 4L, 5L, 6L, 7L, 8L);
    }

    static void t2_spoiltFailsBeforeItAsks() {
        for (int function = 0; function < 6; function++) {
            KeyGraph x = new KeyGraph();
            int below = x.key(0);
            int key = x.key(function);
            x.asks(key, below);
            x.spoil(key, true);
            x.begin(0, key);
            Due.same("steps", Due.allSteps(x, 0), "20");
            Due.is("state", x.state(key), 2);
            Due.is("the other wasn't found", x.state(below), 0);
            Due.asked(x, key);
        }
    }

    static void t2_spoiltFailsItselfNotByAnother() {
        KeyGraph x = new KeyGraph();
        int bad = x.key(5);
        int key = x.key(0);
        x.asks(key, bad);
        x.spoil(key, true);
        Due.is("run", x.run(key), 2);
        Due.is("the other wasn't found", x.state(bad), 0);
    }

    static void t2_spoiltWithAnEmptyRow() {
        for (int function = 0; function < 6; function++) {
            KeyGraph x = new KeyGraph();
            int key = x.key(function);
            x.spoil(key, true);
            Due.is("run", x.run(key), 2);
        }
    }

    static void t2_sumWithoutAny() {
        value(0, 0L, places());
    }

    static void t2_sumOfEight() {
        value(0, 255L, places(0, 1, 2, 3, 4, 5, 6, 7), 1L, 2L, 4L, 8L, 16L, 32L, 64L, 128L);
    }

    static void t2_sumWrapsUpward() {
        value(0, LEAST, places(0, 1), GREATEST, 1L);
    }

    static void t2_sumWrapsDownward() {
        value(0, GREATEST, places(0, 1), LEAST, -1L);
    }

    static void t2_sumWrapsToZero() {
        value(0, 0L, places(0, 1), LEAST, LEAST);
    }

    static void t2_sumWrapsThereAndBack() {
        value(0, GREATEST, places(0, 1, 2), GREATEST, 1L, -1L);
    }

    static void t2_firstNotZeroWithoutAny() {
        value(1, 0L, places());
    }

    static void t2_firstNotZeroOfZeros() {
        value(1, 0L, places(0, 1, 2, 3, 4, 5, 6, 7), 0L, 0L, 0L, 0L, 0L, 0L, 0L, 0L);
    }

    static void t2_firstNotZeroIsTheFirst() {
        value(1, 5L, places(0), 5L, 6L);
    }

    static void t2_firstNotZeroIsTheLast() {
        value(1, 9L, places(0, 1, 2), 0L, 0L, 9L);
    }

    static void t2_firstNotZeroIsBelowZero() {
        value(1, -1L, places(0, 1), 0L, -1L, 7L);
    }

    static void t2_firstNotZeroHasHigherBitsAlone() {
        value(1, 1L << 32, places(0), 1L << 32, 7L);
    }

    static void t2_firstNotZeroIsTheLeast() {
        value(1, LEAST, places(0, 1), 0L, LEAST, 7L);
    }

    static void t2_firstNotZeroDoesNotAskTheFailingOneBehind() {
        withAFailureAt(2, 1, 1, places(0, 1), 0L, 4L, 0L);
    }

    static void t2_pickWithoutAny() {
        value(2, 0L, places());
    }

    static void t2_pickWithoutOthers() {
        value(2, -9L, places(0), -9L);
        value(2, LEAST, places(0), LEAST);
    }

    static void t2_pickOfOneOther() {
        for (long v : new long[] {0L, 1L, -1L, 7L, LEAST, GREATEST}) {
            value(2, 40L, places(0, 1), v, 40L);
        }
    }

    static void t2_pickTheFirstOther() {
        value(2, 40L, places(0, 1), 0L, 40L, 50L, 60L);
    }

    static void t2_pickTheLastOther() {
        value(2, 60L, places(0, 3), 2L, 40L, 50L, 60L);
    }

    static void t2_pickWrapsAround() {
        value(2, 40L, places(0, 1), 3L, 40L, 50L, 60L);
        value(2, 50L, places(0, 2), 4L, 40L, 50L, 60L);
    }

    static void t2_pickBelowZero() {
        value(2, 60L, places(0, 3), -1L, 40L, 50L, 60L);
        value(2, 50L, places(0, 2), -2L, 40L, 50L, 60L);
        value(2, 40L, places(0, 1), -3L, 40L, 50L, 60L);
        value(2, 60L, places(0, 3), -4L, 40L, 50L, 60L);
    }

    static void t2_pickByTheLeast() {
        // The least number is 3 times some number, and 1.
        value(2, 50L, places(0, 2), LEAST, 40L, 50L, 60L);
    }

    static void t2_pickByTheGreatest() {
        value(2, 50L, places(0, 2), GREATEST, 40L, 50L, 60L);
    }

    static void t2_pickByMoreThan32Bits() {
        // 2 to the 32 is 3 times some number, and 1; its lower 32 bits are 0.
        value(2, 50L, places(0, 2), 1L << 32, 40L, 50L, 60L);
    }

    static void t2_pickOfSevenOthers() {
        value(2, 70L, places(0, 7), 6L, 10L, 20L, 30L, 40L, 50L, 60L, 70L);
        value(2, 70L, places(0, 7), -1L, 10L, 20L, 30L, 40L, 50L, 60L, 70L);
        value(2, 10L, places(0, 1), 7L, 10L, 20L, 30L, 40L, 50L, 60L, 70L);
    }

    static void t2_pickAZero() {
        value(2, 0L, places(0, 1), 2L, 0L, 5L);
    }

    static void t2_pickOneThatIsTheFirstToo() {
        KeyGraph x = new KeyGraph();
        int leaf = x.leaf(4L);
        int key = x.key(2);
        x.asks(key, leaf);
        x.asks(key, leaf);
        x.begin(0, key);
        Due.same("steps", Due.allSteps(x, 0), "6620");
        Due.value(x, key, 4L);
        Due.asked(x, key, 0, 1);
    }

    static void t2_pickByOneThatFails() {
        withAFailureAt(0, 2, 3, places(0), 0L, 40L, 50L);
    }

    static void t2_pickOneThatFails() {
        withAFailureAt(2, 2, 3, places(0, 2), 1L, 40L, 50L);
    }

    static void t2_pickBesideOneThatFails() {
        withAFailureAt(1, 2, 1, places(0, 2), 1L, 40L, 50L);
    }

    static void t2_quotientWithoutAny() {
        value(3, 0L, places());
    }

    static void t2_quotientOfOne() {
        value(3, 9L, places(0), 9L);
        value(3, LEAST, places(0), LEAST);
    }

    static void t2_quotientWhoseFirstIsZero() {
        value(3, 0L, places(0), 0L);
        value(3, 0L, places(0, 1, 2), 0L, 5L, -5L);
    }

    static void t2_quotientTowardZero() {
        value(3, 3L, places(0, 1), 7L, 2L);
        value(3, -3L, places(0, 1), -7L, 2L);
        value(3, -3L, places(0, 1), 7L, -2L);
        value(3, 3L, places(0, 1), -7L, -2L);
        value(3, 0L, places(0, 1), -1L, 2L);
    }

    static void t2_quotientInTurn() {
        // Toward 0 each time, not once for the product.
        value(3, 1L, places(0, 1, 2), 9L, 2L, 3L);
        value(3, -7L, places(0, 1, 2), 100L, 7L, -2L);
    }

    static void t2_quotientOfTheLeastByMinusOne() {
        value(3, LEAST, places(0, 1), LEAST, -1L);
        value(3, LEAST, places(0, 1, 2), LEAST, -1L, -1L);
    }

    static void t2_quotientOfTheGreatestByMinusOne() {
        value(3, -GREATEST, places(0, 1), GREATEST, -1L);
    }

    static void t2_quotientByTheLeast() {
        value(3, 0L, places(0, 1), GREATEST, LEAST);
        value(3, 1L, places(0, 1), LEAST, LEAST);
    }

    static void t2_quotientByMoreThan32Bits() {
        value(3, 1L, places(0, 1), 1L << 32, 1L << 32);
    }

    static void t2_quotientByZero() {
        fails(3, places(0, 1), 8L, 0L);
    }

    static void t2_quotientOfZeroByZero() {
        fails(3, places(0, 1), 0L, 0L);
    }

    static void t2_quotientByZeroAsTheLast() {
        fails(3, places(0, 1, 2, 3, 4, 5, 6, 7), 8L, 1L, 1L, 1L, 1L, 1L, 1L, 0L);
    }

    static void t2_quotientByZeroAtOnce() {
        fails(3, places(0, 1), 8L, 0L, 4L, 2L);
    }

    static void t2_quotientByZeroBeforeOneThatFails() {
        withAFailureAt(2, 3, 2, places(0, 1), 8L, 0L, 4L);
    }

    static void t2_quotientByOneThatFailsBeforeZero() {
        withAFailureAt(1, 3, 3, places(0, 1), 8L, 2L, 0L);
    }

    static void t2_lowestBitWithoutAny() {
        value(4, 0L, places());
    }

    static void t2_lowestBitOfOddAndEven() {
        value(4, 1L, places(0), 7L);
        value(4, 0L, places(0), 6L);
        value(4, 0L, places(0, 1), 7L, 9L);
        value(4, 1L, places(0, 1, 2), 2L, 4L, 5L);
    }

    static void t2_lowestBitBelowZero() {
        value(4, 1L, places(0), -7L);
        value(4, 1L, places(0), -1L);
        value(4, 0L, places(0), -2L);
    }

    static void t2_lowestBitOfASumThatWraps() {
        value(4, 0L, places(0, 1), GREATEST, 1L);
        value(4, 1L, places(0, 1), LEAST, -1L);
        value(4, 0L, places(0, 1), LEAST, LEAST);
    }

    static void t2_lowestBitAsksAll() {
        value(4, 0L, places(0, 1, 2, 3, 4, 5, 6, 7), 1L, 1L, 1L, 1L, 1L, 1L, 1L, 1L);
    }

    static void t2_greatestWithoutAny() {
        fails(5, places());
    }

    static void t2_greatestWithoutAnyIsToldByItsFirstStep() {
        KeyGraph x = new KeyGraph();
        int key = x.key(5);
        x.begin(0, key);
        Due.same("steps", Due.allSteps(x, 0), "20");
        Due.is("state", x.state(key), 2);
    }

    static void t2_greatestOfOne() {
        value(5, LEAST, places(0), LEAST);
        value(5, GREATEST, places(0), GREATEST);
        value(5, 0L, places(0), 0L);
    }

    static void t2_greatestAllBelowZero() {
        value(5, -3L, places(0, 1, 2), -4L, -3L, -5L);
    }

    static void t2_greatestIsTheFirst() {
        value(5, GREATEST, places(0, 1, 2), GREATEST, 0L, LEAST);
    }

    static void t2_greatestIsTheEighth() {
        value(5, 8L, places(0, 1, 2, 3, 4, 5, 6, 7), 1L, 2L, 3L, 4L, 5L, 6L, 7L, 8L);
    }

    static void t2_greatestByMoreThan32Bits() {
        value(5, 1L << 32, places(0, 1, 2), 1L, 1L << 32, Integer.MAX_VALUE);
    }

    static void t2_greatestAgainWithOneInItsRow() {
        KeyGraph x = new KeyGraph();
        int key = x.key(5);
        Due.is("run", x.run(key), 2);
        x.asks(key, x.leaf(-4L));
        Due.is("run", x.run(key), 1);
        Due.value(x, key, -4L);
    }
}
