/** The six functions of the terms, by run, value and asked (promises 9, 11, 13, 17). */
public final class FunctionsTest {
    private static final long LEAST = Long.MIN_VALUE;
    private static final long GREATEST = Long.MAX_VALUE;

    public static void main(String[] args) {
        sum();
        firstNotZero();
        pick();
        quotient();
        lowestBit();
        greatest();
        failedByAnother();
        spoiltAsksNothing();
        Due.end();
    }

    private static void due(int function, long want, int[] asked, long... leaves) {
        KeyGraph x = new KeyGraph();
        int key = Due.keyOver(x, function, leaves);
        Due.is("run", x.run(key), 1);
        Due.value(x, key, want);
        Due.asked(x, key, asked);
    }

    private static void dueToFail(int function, int[] asked, long... leaves) {
        KeyGraph x = new KeyGraph();
        int key = Due.keyOver(x, function, leaves);
        Due.is("run", x.run(key), 2);
        Due.valueThrows(x, key, Due.ILLEGAL_STATE);
        Due.asked(x, key, asked);
    }

    private static int[] places(int... places) {
        return places;
    }

    private static void sum() {
        due(0, 0L, places());
        due(0, -7L, places(0), -7L);
        due(0, 6L, places(0, 1, 2), 1L, 2L, 3L);
        due(0, LEAST, places(0, 1), GREATEST, 1L);
        due(0, 0L, places(0, 1), LEAST, LEAST);
    }

    private static void firstNotZero() {
        due(1, 0L, places());
        due(1, 0L, places(0, 1, 2), 0L, 0L, 0L);
        due(1, 5L, places(0), 5L, 6L);
        due(1, -6L, places(0, 1), 0L, -6L, 7L);
        due(1, 1L << 32, places(0, 1), 0L, 1L << 32, 7L);
    }

    private static void pick() {
        due(2, 0L, places());
        due(2, -9L, places(0), -9L);
        due(2, 40L, places(0, 1), 7L, 40L);
        due(2, 40L, places(0, 1), 0L, 40L, 50L, 60L);
        due(2, 50L, places(0, 2), 1L, 40L, 50L, 60L);
        due(2, 60L, places(0, 3), 2L, 40L, 50L, 60L);
        due(2, 40L, places(0, 1), 3L, 40L, 50L, 60L);
        due(2, 60L, places(0, 3), -1L, 40L, 50L, 60L);
        due(2, 40L, places(0, 1), -3L, 40L, 50L, 60L);
        due(2, 50L, places(0, 2), -2L, 40L, 50L, 60L);
        due(2, 50L, places(0, 2), LEAST, 40L, 50L, 60L);
        due(2, 50L, places(0, 2), GREATEST, 40L, 50L, 60L);
        due(2, 0L, places(0, 7), -1L, 1L, 2L, 3L, 4L, 5L, 6L, 0L);
    }

    private static void quotient() {
        due(3, 0L, places());
        due(3, 9L, places(0), 9L);
        due(3, 0L, places(0), 0L);
        due(3, 3L, places(0, 1), 7L, 2L);
        due(3, -3L, places(0, 1), -7L, 2L);
        due(3, -3L, places(0, 1), 7L, -2L);
        due(3, 3L, places(0, 1), -7L, -2L);
        due(3, -7L, places(0, 1, 2), 100L, 7L, -2L);
        due(3, 2L, places(0, 1, 2), 29L, 3L, 4L);
        due(3, LEAST, places(0, 1), LEAST, -1L);
        due(3, LEAST, places(0, 1, 2), LEAST, -1L, -1L);
        due(3, 0L, places(0, 1, 2), 0L, 5L, -5L);
        dueToFail(3, places(0, 1), 8L, 0L);
        dueToFail(3, places(0, 1), 0L, 0L, 4L);
        dueToFail(3, places(0, 1, 2), 8L, 2L, 0L, 4L, 0L);
    }

    private static void lowestBit() {
        due(4, 0L, places());
        due(4, 1L, places(0), 7L);
        due(4, 1L, places(0), -7L);
        due(4, 0L, places(0, 1), 3L, -7L);
        due(4, 1L, places(0, 1, 2), 2L, 4L, 5L);
        due(4, 0L, places(0, 1), GREATEST, 1L);
        due(4, 1L, places(0, 1), LEAST, -1L);
    }

    private static void greatest() {
        dueToFail(5, places());
        due(5, -4L, places(0), -4L);
        due(5, -3L, places(0, 1, 2), -4L, -3L, -5L);
        due(5, 0L, places(0, 1), LEAST, 0L);
        due(5, GREATEST, places(0, 1), GREATEST, LEAST);
    }

    private static void failedByAnother() {
        for (int function = 0; function < 6; function++) {
            KeyGraph x = new KeyGraph();
            int bad = x.key(5);
            int key = x.key(function);
            int above = x.key(function);
            x.asks(key, x.leaf(0L));
            x.asks(key, bad);
            x.asks(key, x.leaf(1L));
            x.asks(above, key);
            Due.is("run", x.run(above), 3);
            Due.is("state", x.state(bad), 2);
            Due.is("state", x.state(key), 3);
            Due.asked(x, key, 0, 1);
            Due.asked(x, above, 0);
            Due.asked(x, bad);
        }
        failedIsNotAskedWithoutNeed();
    }

    private static void failedIsNotAskedWithoutNeed() {
        KeyGraph x = new KeyGraph();
        int bad = x.key(5);
        int key = Due.keyOver(x, 1, 4L);
        x.asks(key, bad);
        int pick = Due.keyOver(x, 2, 1L);
        x.asks(pick, bad);
        x.asks(pick, key);
        Due.is("run", x.run(pick), 1);
        Due.value(x, pick, 4L);
        Due.asked(x, pick, 0, 2);
        Due.is("state", x.state(bad), 0);
        Due.is("worked", x.worked(bad), 0);
    }

    private static void spoiltAsksNothing() {
        for (int function = 0; function < 6; function++) {
            KeyGraph x = new KeyGraph();
            int below = x.key(0);
            int key = x.key(function);
            x.asks(key, below);
            x.spoil(key, true);
            Due.is("run", x.run(key), 2);
            Due.is("worked", x.worked(key), 1);
            Due.is("state", x.state(below), 0);
            Due.asked(x, key);
        }
    }
}
