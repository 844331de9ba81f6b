/** Promises 8, 9 and 10: begin, step, cancel. */
public final class WorkersTest {
    private static final int[] NO_WORKER = {-1, 4, 5, Integer.MAX_VALUE, Integer.MIN_VALUE};

    public static void main(String[] args) {
        begin();
        beginWrong();
        stepsOfWork();
        stepsOfACheck();
        checkEndsAtTheFirstThatChanged();
        stepsThatFail();
        stepsOfFailuresByAnother();
        checkOfAFailure();
        alteredIsNotChecked();
        waiting();
        waitingInACheck();
        cancel();
        cancelledWorkLeavesNothing();
        stepWrong();
        Due.end();
    }

    private static void begin() {
        KeyGraph x = new KeyGraph();
        int a = x.key(0);
        int b = x.key(0);
        Due.is("begin", x.begin(0, a), 1);
        Due.is("the pile isn't empty", x.begin(0, b), -1);
        Due.is("the pile isn't empty", x.begin(0, a), -1);
        Due.is("another has it", x.begin(3, a), -2);
        Due.is("begin", x.begin(3, b), 1);
        Due.is("state", x.state(a), 0);
        Due.is("step", x.step(0), 2);
        Due.is("sure", x.begin(0, a), 0);
        Due.is("the pile isn't empty, though it is sure", x.begin(3, a), -1);
        Due.is("nothing was done", x.step(0), 0);
        Due.is("a leaf is sure", x.begin(1, x.leaf(1L)), 0);
        Due.is("nothing was done", x.step(1), 0);
    }

    private static void beginWrong() {
        KeyGraph x = new KeyGraph();
        int key = x.key(0);
        for (int worker : NO_WORKER) {
            Due.is("no worker", x.begin(worker, key), -1);
            Due.is("no worker, no key", x.begin(worker, 1), -1);
        }
        int[] none = {-1, 1, 40, Integer.MAX_VALUE, Integer.MIN_VALUE};
        for (int n : none) {
            Due.is("no key", x.begin(0, n), -1);
        }
        x.run(key);
        Due.is("no worker, sure", x.begin(4, key), -1);
    }

    private static void stepsOfWork() {
        KeyGraph x = new KeyGraph();
        int below = Due.keyOver(x, 0, 1L, 2L);
        int top = Due.keyOver(x, 0, 10L);
        x.asks(top, below);
        x.asks(top, below);
        x.begin(1, top);
        Due.steps("work", x, 1, 6, 1, 6, 6);
        Due.is("not yet", x.state(below), 0);
        Due.steps("work", x, 1, 2);
        Due.is("sure", x.state(below), 1);
        Due.is("not yet", x.state(top), 0);
        Due.steps("work", x, 1, 6, 6, 2, 0, 0);
        Due.value(x, top, 16L);
        Due.is("worked", x.worked(top), 1);
        Due.is("worked", x.worked(below), 1);

        KeyGraph y = new KeyGraph();
        int first = Due.keyOver(y, 1, 0L, 3L, 4L);
        y.begin(0, first);
        Due.steps("first not zero", y, 0, 6, 6, 2, 0);
        int pick = Due.keyOver(y, 2, 1L, 3L, 4L, 5L);
        y.begin(0, pick);
        Due.steps("pick", y, 0, 6, 6, 2, 0);
        int empty = y.key(3);
        y.begin(0, empty);
        Due.steps("an empty row", y, 0, 2, 0);
    }

    private static void stepsOfACheck() {
        KeyGraph x = new KeyGraph();
        int leaf = x.leaf(3L);
        int bit = x.key(4);
        x.asks(bit, leaf);
        int top = Due.keyOver(x, 0, 10L);
        x.asks(top, bit);
        x.run(top);
        x.change(leaf, 5L);
        x.begin(0, top);
        Due.steps("a check", x, 0, 4, 1, 5, 6, 2, 4, 2, 0);
        Due.is("kept", x.kept(top), 1);
        Due.is("worked", x.worked(top), 1);
        Due.is("worked", x.worked(bit), 2);
        Due.is("kept", x.kept(bit), 0);
        Due.asked(x, top, 0, 1);
    }

    private static void checkEndsAtTheFirstThatChanged() {
        KeyGraph x = new KeyGraph();
        int top = x.key(1);
        int first = x.leaf(0L);
        int second = x.key(4);
        int deep = x.leaf(1L);
        x.asks(second, deep);
        x.asks(top, first);
        x.asks(top, second);
        x.run(top);
        x.change(deep, 2L);
        x.change(first, 8L);
        x.begin(0, top);
        Due.steps("the first changed", x, 0, 5);
        Due.is("asked is that of the last time", x.asked(top, 1), 1);
        Due.steps("and is not zero", x, 0, 6, 2, 0);
        Due.is("the second was not found", x.state(second), 0);
        Due.asked(x, top, 0);
        x.change(deep, 4L);
        x.begin(0, top);
        Due.steps("it asks the first alone now", x, 0, 4, 2, 0);
    }

    private static void stepsThatFail() {
        KeyGraph x = new KeyGraph();
        int quotient = Due.keyOver(x, 3, 8L, 0L, 2L);
        x.begin(0, quotient);
        Due.steps("by 0", x, 0, 6, 6);
        Due.is("told by a step of its own", x.state(quotient), 0);
        Due.steps("by 0", x, 0, 2, 0);
        Due.is("state", x.state(quotient), 2);
        int greatest = x.key(5);
        x.begin(0, greatest);
        Due.steps("without any", x, 0, 2, 0);
        Due.is("state", x.state(greatest), 2);
        int sum = Due.keyOver(x, 0, 1L);
        x.spoil(sum, true);
        x.begin(0, sum);
        Due.steps("spoilt", x, 0, 2, 0);
        Due.is("state", x.state(sum), 2);
    }

    private static void stepsOfFailuresByAnother() {
        KeyGraph x = new KeyGraph();
        int bad = x.key(5);
        int middle = Due.keyOver(x, 0, 1L);
        x.asks(middle, bad);
        x.asks(middle, x.leaf(2L));
        int top = x.key(0);
        x.asks(top, middle);
        x.begin(0, top);
        Due.steps("by another", x, 0, 1, 6, 1, 2);
        Due.is("state", x.state(bad), 2);
        Due.is("state", x.state(middle), 0);
        Due.steps("at once", x, 0, 2);
        Due.is("state", x.state(middle), 3);
        Due.steps("at once", x, 0, 2, 0);
        Due.is("state", x.state(top), 3);
        Due.is("worked", x.worked(top), 1);
        Due.asked(x, middle, 0, 1);
    }

    private static void checkOfAFailure() {
        KeyGraph x = new KeyGraph();
        int other = x.leaf(1L);
        int bad = Due.keyOver(x, 3, 8L, 0L);
        int divisor = bad + 2;
        int top = x.key(0);
        x.asks(top, bad);
        x.run(top);
        x.change(other, 2L);
        x.begin(0, top);
        Due.steps("all is as it was", x, 0, 1, 4, 4, 2, 4, 2, 0);
        Due.is("state", x.state(top), 3);
        Due.is("kept", x.kept(top), 1);
        x.change(divisor, 2L);
        x.begin(0, top);
        Due.steps("it doesn't fail now", x, 0, 1, 4, 5, 6, 6, 2, 5, 6, 2, 0);
        Due.value(x, top, 4L);
    }

    private static void alteredIsNotChecked() {
        KeyGraph x = new KeyGraph();
        int key = Due.keyOver(x, 0, 1L);
        x.run(key);
        x.asks(key, x.leaf(2L));
        x.begin(0, key);
        Due.steps("its row grew", x, 0, 6, 6, 2, 0);
        x.spoil(key, true);
        x.spoil(key, false);
        x.begin(0, key);
        Due.steps("spoilt, and not any more", x, 0, 6, 6, 2, 0);
        x.drop(key);
        x.begin(0, key);
        Due.steps("not kept", x, 0, 6, 6, 2, 0);
        x.change(x.leaf(0L), 1L);
        x.begin(0, key);
        Due.steps("checked", x, 0, 4, 4, 2, 0);
        Due.is("worked", x.worked(key), 4);
        Due.is("kept", x.kept(key), 1);
    }

    private static void waiting() {
        KeyGraph x = new KeyGraph();
        int shared = Due.keyOver(x, 0, 5L);
        int left = x.key(0);
        int right = x.key(0);
        x.asks(left, shared);
        x.asks(right, shared);
        x.begin(0, left);
        x.begin(1, right);
        Due.steps("the first has it", x, 0, 1);
        Due.steps("the other waits", x, 1, 3, 3);
        Due.is("and nobody may begin it", x.begin(2, shared), -2);
        Due.steps("the first", x, 0, 6, 2);
        Due.steps("the other takes it", x, 1, 6, 2, 0);
        Due.steps("the first", x, 0, 6, 2, 0);
        Due.is("it was worked out once", x.worked(shared), 1);
        Due.value(x, left, 5L);
        Due.value(x, right, 5L);
    }

    private static void waitingInACheck() {
        KeyGraph x = new KeyGraph();
        int shared = Due.keyOver(x, 0, 5L);
        int top = x.key(0);
        x.asks(top, shared);
        x.run(top);
        x.change(x.leaf(0L), 1L);
        x.begin(3, shared);
        x.begin(2, top);
        Due.steps("it waits", x, 2, 3);
        Due.steps("the other", x, 3, 4);
        Due.steps("it waits", x, 2, 3);
        Due.steps("the other", x, 3, 2, 0);
        Due.steps("it is passed", x, 2, 4, 2, 0);
        Due.is("kept", x.kept(top), 1);
    }

    private static void cancel() {
        KeyGraph x = new KeyGraph();
        int a = x.key(0);
        int b = x.key(0);
        int c = x.key(0);
        int d = x.key(0);
        x.asks(a, b);
        x.asks(b, c);
        Due.is("nothing", x.cancel(), 0);
        x.begin(0, a);
        Due.steps("to the deepest", x, 0, 1, 1);
        x.begin(3, d);
        Due.is("cancel", x.cancel(), 4);
        Due.is("nothing more", x.cancel(), 0);
        Due.steps("empty", x, 0, 0);
        Due.steps("empty", x, 3, 0);
        Due.is("free again", x.begin(1, c), 1);
        Due.is("version stays", x.version(), 2);
        Due.steps("found", x, 1, 2);
        x.cancel();
        Due.is("what was found stays sure", x.state(c), 1);
        Due.is("run leaves nothing behind", x.run(a), 1);
        Due.is("nothing", x.cancel(), 0);
    }

    private static void cancelledWorkLeavesNothing() {
        KeyGraph x = new KeyGraph();
        int key = x.key(1);
        int first = x.leaf(0L);
        int second = x.leaf(2L);
        x.asks(key, first);
        x.asks(key, second);
        x.run(key);
        x.change(first, 6L);
        x.begin(0, key);
        Due.steps("the check ends, the first is taken", x, 0, 5, 6);
        x.cancel();
        Due.asked(x, key, 0, 1);
        Due.is("worked", x.worked(key), 1);
        Due.is("changed", x.changed(key), 2);
        x.begin(1, key);
        Due.steps("all over again", x, 1, 5, 6, 2, 0);
        Due.value(x, key, 6L);
        Due.asked(x, key, 0);
        Due.is("changed", x.changed(key), 3);
    }

    private static void stepWrong() {
        KeyGraph x = new KeyGraph();
        x.begin(0, x.key(0));
        for (int worker : NO_WORKER) {
            Due.is("no worker", x.step(worker), -1);
        }
        Due.steps("empty", x, 1, 0);
        Due.steps("still there", x, 0, 2);
    }
}
