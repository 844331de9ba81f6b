/** Promises 11 to 18: run, and what is told of a key that was found. */
public final class FoundTest {
    private static final int[] NONE_SUCH = {-1, 39, 40, Integer.MAX_VALUE, Integer.MIN_VALUE};

    public static void main(String[] args) {
        run();
        runThatWaits();
        runThatIsInAPile();
        runBesideWorkers();
        deepest();
        state();
        value();
        workedAndKept();
        changed();
        changedOfFailures();
        asked();
        drop();
        dropAndCheck();
        dropWrong();
        noneSuch();
        Due.end();
    }

    private static void run() {
        KeyGraph x = new KeyGraph();
        int key = Due.keyOver(x, 0, 1L, 2L);
        Due.is("a leaf", x.run(key + 1), 1);
        Due.is("a value", x.run(key), 1);
        Due.is("sure", x.run(key), 1);
        Due.is("worked out once", x.worked(key), 1);
        Due.is("kept", x.kept(key), 0);
        int bad = x.key(5);
        int above = x.key(0);
        x.asks(above, bad);
        Due.is("failed by another", x.run(above), 3);
        Due.is("failed itself", x.run(bad), 2);
        Due.is("still", x.run(above), 3);
        Due.is("nobody has a key", x.cancel(), 0);
    }

    private static void runThatWaits() {
        KeyGraph x = new KeyGraph();
        int free = Due.keyOver(x, 0, 1L);
        int held = Due.keyOver(x, 0, 2L);
        int middle = x.key(0);
        int top = x.key(0);
        x.asks(middle, free);
        x.asks(middle, held);
        x.asks(top, middle);
        x.begin(0, held);
        Due.is("it would have to wait", x.run(top), -2);
        Due.is("what was found stays sure", x.state(free), 1);
        Due.is("the others aren't", x.state(middle), 0);
        Due.is("run's own pile is empty", x.begin(1, middle), 1);
        Due.is("cancel", x.cancel(), 2);
        Due.is("run", x.run(top), 1);
        Due.is("worked", x.worked(free), 1);
        Due.is("worked", x.worked(middle), 1);
        Due.value(x, top, 3L);
    }

    private static void runThatIsInAPile() {
        KeyGraph x = new KeyGraph();
        int below = x.key(0);
        int key = x.key(0);
        x.asks(key, below);
        x.begin(2, key);
        x.step(2);
        Due.is("at the bottom of a pile", x.run(key), -2);
        Due.is("on top of a pile", x.run(below), -2);
        Due.steps("the worker goes on", x, 2, 2, 6, 2, 0);
        Due.is("run", x.run(key), 1);
    }

    private static void runBesideWorkers() {
        KeyGraph x = new KeyGraph();
        int below = Due.keyOver(x, 0, 4L);
        int held = Due.keyOver(x, 1, 3L);
        x.asks(held, below);
        int top = Due.keyOver(x, 1, 7L);
        x.asks(top, held);
        x.begin(0, held);
        Due.is("what it doesn't ask is no hindrance", x.run(top), 1);
        Due.is("run", x.run(below), 1);
        Due.steps("the worker goes on", x, 0, 6, 2, 0);
    }

    private static void deepest() {
        KeyGraph x = new KeyGraph();
        x.leaf(6L);
        for (int i = 1; i < 40; i++) {
            x.key(0);
            x.asks(i, i - 1);
        }
        x.begin(0, 39);
        for (int i = 0; i < 38; i++) {
            Due.steps("on top", x, 0, 1);
        }
        Due.is("cancel", x.cancel(), 39);
        Due.is("run", x.run(39), 1);
        Due.value(x, 39, 6L);
        x.change(0, 8L);
        Due.is("run", x.run(39), 1);
        Due.value(x, 39, 8L);
        Due.is("worked", x.worked(39), 2);
    }

    private static void state() {
        KeyGraph x = new KeyGraph();
        int key = Due.keyOver(x, 0, 1L);
        Due.is("a leaf", x.state(key + 1), 1);
        Due.is("not sure", x.state(key), 0);
        x.run(key);
        Due.is("sure", x.state(key), 1);
        x.leaf(0L);
        Due.is("a new leaf changes nothing", x.state(key), 1);
        x.change(key + 2, 1L);
        Due.is("another version, though it doesn't ask that", x.state(key), 0);
        x.spoil(key, true);
        x.run(key);
        Due.is("failed", x.state(key), 2);
    }

    private static void value() {
        KeyGraph x = new KeyGraph();
        int key = Due.keyOver(x, 0, Long.MAX_VALUE);
        Due.value(x, key + 1, Long.MAX_VALUE);
        Due.valueThrows(x, key, Due.ILLEGAL_STATE);
        x.run(key);
        Due.value(x, key, Long.MAX_VALUE);
        x.change(key + 1, 2L);
        Due.valueThrows(x, key, Due.ILLEGAL_STATE);
        x.spoil(key, true);
        x.run(key);
        Due.valueThrows(x, key, Due.ILLEGAL_STATE);
        int above = x.key(0);
        x.asks(above, key);
        x.run(above);
        Due.valueThrows(x, above, Due.ILLEGAL_STATE);
    }

    private static void workedAndKept() {
        KeyGraph x = new KeyGraph();
        int other = x.leaf(0L);
        int key = Due.keyOver(x, 0, 1L);
        int leaf = key + 1;
        Due.is("worked", x.worked(key), 0);
        Due.is("kept", x.kept(key), 0);
        for (int round = 1; round <= 3; round++) {
            x.change(leaf, 10L * round);
            x.run(key);
            Due.is("worked", x.worked(key), round);
            x.change(other, round);
            x.run(key);
            x.run(key);
            Due.is("kept", x.kept(key), round);
        }
        x.change(other, 77L);
        x.change(other, 78L);
        x.change(other, 79L);
        x.run(key);
        Due.is("checked once for three versions", x.kept(key), 4);
        Due.is("worked", x.worked(key), 3);
        x.drop(key);
        Due.is("the counts stay", x.worked(key), 3);
        Due.is("the counts stay", x.kept(key), 4);
        Due.is("a leaf", x.worked(leaf), 0);
        Due.is("a leaf", x.kept(leaf), 0);
    }

    private static void changed() {
        KeyGraph x = new KeyGraph();
        int leaf = x.leaf(2L);
        int bit = x.key(4);
        int top = x.key(0);
        x.asks(bit, leaf);
        x.asks(top, bit);
        Due.is("not kept", x.changed(bit), KeyGraph.NONE);
        x.run(top);
        Due.is("changed", x.changed(bit), 2);
        x.change(leaf, 4L);
        Due.is("kept, not sure", x.changed(bit), 2);
        x.run(top);
        Due.is("worked out again", x.worked(bit), 2);
        Due.is("the same as before", x.changed(bit), 2);
        Due.is("checked", x.changed(top), 2);
        Due.is("of the leaf", x.changed(leaf), 3);
        x.change(leaf, 5L);
        x.run(top);
        Due.is("another value", x.changed(bit), 4);
        Due.is("another value", x.changed(top), 4);
        x.change(leaf, 6L);
        x.run(bit);
        x.change(leaf, 7L);
        x.run(top);
        Due.is("behind the version in which top was sure", x.changed(bit), 6);
        Due.is("worked out again", x.worked(top), 3);
        Due.is("the same as before", x.changed(top), 4);
    }

    private static void changedOfFailures() {
        KeyGraph x = new KeyGraph();
        int first = x.leaf(0L);
        int second = x.leaf(0L);
        int key = x.key(3);
        int bad = x.key(3);
        x.asks(bad, first);
        x.asks(bad, second);
        x.asks(key, first);
        x.asks(key, bad);
        x.run(key);
        Due.is("state", x.state(key), 3);
        Due.is("changed", x.changed(key), 4);
        Due.is("changed", x.changed(bad), 4);
        x.change(first, 9L);
        x.run(key);
        Due.is("it failed again", x.changed(bad), 4);
        Due.is("it failed again by another", x.changed(key), 4);
        Due.is("worked", x.worked(key), 2);
        x.spoil(key, true);
        x.run(key);
        Due.is("it failed itself now", x.changed(key), 6);
        x.spoil(key, false);
        x.change(first, 0L);
        x.change(second, 1L);
        x.run(bad);
        Due.is("a value of 0 isn't a failure", x.changed(bad), 9);
        Due.is("by 0", x.run(key), 2);
        Due.is("the same as before", x.changed(key), 6);
    }

    private static void asked() {
        KeyGraph x = new KeyGraph();
        int key = Due.keyOver(x, 1, 0L, 0L, 4L);
        Due.asked(x, key);
        x.run(key);
        Due.asked(x, key, 0, 1, 2);
        x.change(key + 1, 3L);
        Due.asked(x, key, 0, 1, 2);
        x.run(key);
        Due.asked(x, key, 0);
        Due.asked(x, key + 1);
        x.drop(key);
        Due.asked(x, key);
        Due.is("i", x.asked(key, Integer.MAX_VALUE), KeyGraph.NONE);
        Due.is("i", x.asked(key, Integer.MIN_VALUE), KeyGraph.NONE);
        Due.is("i", x.asked(key, 8), KeyGraph.NONE);
    }

    private static void drop() {
        KeyGraph x = new KeyGraph();
        int key = Due.keyOver(x, 0, 1L);
        int above = x.key(0);
        x.asks(above, key);
        Due.is("not kept yet", x.drop(key), false);
        x.run(above);
        Due.is("drop", x.drop(key), true);
        Due.is("not kept any more", x.drop(key), false);
        Due.is("nor sure", x.state(key), 0);
        Due.valueThrows(x, key, Due.ILLEGAL_STATE);
        Due.is("changed", x.changed(key), KeyGraph.NONE);
        Due.is("the one above is still sure", x.state(above), 1);
        Due.is("version stays", x.version(), 2);
        Due.is("run", x.run(key), 1);
        Due.is("worked", x.worked(key), 2);
        x.change(key + 1, 2L);
        Due.is("kept, though not sure", x.drop(above), true);
    }

    private static void dropAndCheck() {
        KeyGraph x = new KeyGraph();
        int other = x.leaf(0L);
        int key = Due.keyOver(x, 0, 1L);
        int above = x.key(0);
        x.asks(above, key);
        x.run(above);
        x.change(other, 1L);
        x.drop(key);
        x.run(above);
        Due.is("what wasn't kept changed in this version", x.changed(key), 3);
        Due.is("so the one above was worked out again", x.worked(above), 2);
        Due.is("to the same", x.changed(above), 2);
        x.drop(key);
        x.run(key);
        x.change(other, 2L);
        x.run(above);
        Due.is("not behind the version in which it was sure", x.kept(above), 1);
    }

    private static void dropWrong() {
        KeyGraph x = new KeyGraph();
        int leaf = x.leaf(0L);
        int key = x.key(0);
        int other = x.key(0);
        x.begin(0, key);
        Due.is("a leaf", x.drop(leaf), false);
        Due.is("not kept", x.drop(key), false);
        Due.is("none such", x.drop(3), false);
        Due.is("the piles are as they were", x.begin(1, key), -2);
        x.run(other);
        Due.is("drop", x.drop(other), true);
        Due.is("the piles are empty", x.cancel(), 0);
    }

    private static void noneSuch() {
        KeyGraph x = new KeyGraph();
        x.run(Due.keyOver(x, 0, 1L, 2L));
        for (int n : NONE_SUCH) {
            Due.is("run", x.run(n), -1);
            Due.is("state", x.state(n), 0);
            Due.valueThrows(x, n, Due.ILLEGAL_ARGUMENT);
            Due.is("worked", x.worked(n), 0);
            Due.is("kept", x.kept(n), 0);
            Due.is("changed", x.changed(n), KeyGraph.NONE);
            Due.is("asked", x.asked(n, 0), KeyGraph.NONE);
            Due.is("drop", x.drop(n), false);
        }
    }
}
