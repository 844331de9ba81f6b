/** Promises 6, 7 and 19: change, spoil, version. */
public final class VersionTest {
    private static final int[] NONE_SUCH = {-1, 3, 40, Integer.MAX_VALUE, Integer.MIN_VALUE};

    public static void main(String[] args) {
        change();
        changeBackAndForth();
        changeCancels();
        spoil();
        spoiltAndNotAnyMore();
        spoilCancels();
        version();
        Due.end();
    }

    private static void change() {
        KeyGraph x = new KeyGraph();
        int leaf = x.leaf(4L);
        int key = x.key(0);
        x.asks(key, leaf);
        x.run(key);
        Due.is("the same", x.change(leaf, 4L), 1);
        Due.is("still sure", x.state(key), 1);
        Due.is("changed", x.changed(leaf), 0);
        Due.is("another", x.change(leaf, 4L + (1L << 32)), 2);
        Due.is("not sure", x.state(key), 0);
        Due.valueThrows(x, key, Due.ILLEGAL_STATE);
        Due.is("changed", x.changed(leaf), 2);
        Due.value(x, leaf, 4L + (1L << 32));
        Due.is("a leaf is always sure", x.state(leaf), 1);
        Due.is("a key with a function", x.change(key, 1L), KeyGraph.NONE);
        x.leaf(0L);
        for (int n : NONE_SUCH) {
            Due.is("none such", x.change(n, 1L), KeyGraph.NONE);
        }
        Due.is("version", x.version(), 2);
    }

    private static void changeBackAndForth() {
        KeyGraph x = new KeyGraph();
        int leaf = x.leaf(4L);
        int key = x.key(0);
        x.asks(key, leaf);
        x.run(key);
        Due.is("another", x.change(leaf, 5L), 2);
        Due.is("back", x.change(leaf, 4L), 3);
        Due.is("run", x.run(key), 1);
        Due.is("the leaf changed behind that version", x.worked(key), 2);
        Due.is("kept", x.kept(key), 0);
        Due.is("the value is the same", x.changed(key), 1);
    }

    private static void changeCancels() {
        KeyGraph x = new KeyGraph();
        int leaf = x.leaf(4L);
        int key = x.key(0);
        x.begin(2, key);
        x.change(leaf, 4L);
        x.change(key, 4L);
        Due.is("it lies there still", x.begin(0, key), -2);
        x.change(leaf, 5L);
        Due.is("cancelled", x.step(2), 0);
        Due.is("worked", x.worked(key), 0);
    }

    private static void spoil() {
        KeyGraph x = new KeyGraph();
        int leaf = x.leaf(4L);
        int key = x.key(0);
        int above = x.key(0);
        x.asks(key, leaf);
        x.asks(above, key);
        Due.is("run", x.run(above), 1);
        Due.is("as it is", x.spoil(key, false), 2);
        Due.is("still sure", x.state(key), 1);
        Due.is("spoil", x.spoil(key, true), 3);
        Due.is("as it is", x.spoil(key, true), 3);
        Due.is("not sure", x.state(key), 0);
        Due.is("run", x.run(above), 3);
        Due.is("run", x.run(key), 2);
        Due.is("changed", x.changed(key), 3);
        Due.is("changed", x.changed(above), 3);
        Due.is("not any more", x.spoil(key, false), 4);
        Due.is("run", x.run(above), 1);
        Due.value(x, above, 4L);
        Due.is("worked", x.worked(key), 3);
        Due.is("changed", x.changed(above), 4);
        Due.is("a leaf", x.spoil(leaf, true), KeyGraph.NONE);
        Due.is("a leaf", x.spoil(leaf, false), KeyGraph.NONE);
        for (int n : NONE_SUCH) {
            Due.is("none such", x.spoil(n, true), KeyGraph.NONE);
        }
        Due.is("version", x.version(), 4);
    }

    private static void spoiltAndNotAnyMore() {
        KeyGraph x = new KeyGraph();
        int leaf = x.leaf(4L);
        int key = x.key(0);
        int above = x.key(0);
        x.asks(key, leaf);
        x.asks(above, key);
        x.run(above);
        x.spoil(key, true);
        x.spoil(key, false);
        Due.is("run", x.run(above), 1);
        Due.is("worked out, not checked", x.worked(key), 2);
        Due.is("the same as before", x.changed(key), 2);
        Due.is("checked alone", x.kept(above), 1);
        Due.is("worked", x.worked(above), 1);
        x.spoil(key, true);
        x.run(above);
        x.change(leaf, 9L);
        Due.is("run", x.run(above), 3);
        Due.is("spoilt before it was sure last: checked", x.kept(key), 1);
        Due.is("worked", x.worked(key), 3);
        Due.is("kept", x.kept(above), 2);
    }

    private static void spoilCancels() {
        KeyGraph x = new KeyGraph();
        int key = x.key(0);
        x.begin(3, key);
        x.spoil(key, false);
        Due.is("it lies there still", x.begin(0, key), -2);
        x.spoil(key, true);
        Due.is("cancelled", x.step(3), 0);
        Due.is("run", x.run(key), 2);
    }

    private static void version() {
        KeyGraph x = new KeyGraph();
        Due.is("at first", x.version(), 0);
        x.leaf(1L);
        x.key(0);
        x.asks(1, 1);
        x.run(1);
        x.begin(0, 1);
        x.step(0);
        x.cancel();
        x.drop(1);
        Due.is("none of these", x.version(), 0);
        x.asks(1, 0);
        Due.is("a row grew", x.version(), 1);
        x.change(0, 2L);
        Due.is("a leaf changed", x.version(), 2);
        x.spoil(1, true);
        Due.is("a key is spoilt", x.version(), 3);
        x.spoil(1, false);
        Due.is("it isn't any more", x.version(), 4);
    }
}
