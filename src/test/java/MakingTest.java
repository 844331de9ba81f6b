/** Promises 1 to 5: a new object, leaf, key, asks, ring. */
public final class MakingTest {
    public static void main(String[] args) {
        newObject();
        leaf();
        key();
        fortyKeys();
        asks();
        eightInARow();
        asksWrong();
        asksCancels();
        ring();
        ringTakesTheFirstWayBack();
        ringIsThatOfItsTime();
        longestRing();
        Due.end();
    }

    private static void newObject() {
        KeyGraph x = new KeyGraph();
        Due.is("version", x.version(), 0);
        Due.is("state(0)", x.state(0), 0);
        Due.is("run(0)", x.run(0), -1);
        Due.is("change(0, 1)", x.change(0, 1L), KeyGraph.NONE);
        Due.is("changed(0)", x.changed(0), KeyGraph.NONE);
        Due.is("cancel()", x.cancel(), 0);
        Due.valueThrows(x, 0, Due.ILLEGAL_ARGUMENT);
        Due.ring(x);
        for (int worker = 0; worker < 4; worker++) {
            Due.is("step", x.step(worker), 0);
        }
        Due.is("leaf of another object", new KeyGraph().leaf(1L), 0);
        Due.is("leaf", x.leaf(1L), 0);
    }

    private static void leaf() {
        KeyGraph x = new KeyGraph();
        Due.is("leaf", x.leaf(Long.MIN_VALUE), 0);
        Due.value(x, 0, Long.MIN_VALUE);
        Due.is("state", x.state(0), 1);
        Due.is("changed", x.changed(0), 0);
        x.change(0, 3L);
        Due.is("leaf", x.leaf(7L), 1);
        Due.is("version stays", x.version(), 1);
        Due.is("its value came in this version", x.changed(1), 1);
        Due.is("that of the other", x.changed(0), 1);
    }

    private static void key() {
        KeyGraph x = new KeyGraph();
        Due.is("key(-1)", x.key(-1), KeyGraph.NONE);
        Due.is("key(6)", x.key(6), KeyGraph.NONE);
        Due.is("key(greatest)", x.key(Integer.MAX_VALUE), KeyGraph.NONE);
        Due.is("key(least)", x.key(Integer.MIN_VALUE), KeyGraph.NONE);
        for (int function = 0; function < 6; function++) {
            Due.is("key", x.key(function), function);
            Due.is("state", x.state(function), 0);
            Due.is("changed", x.changed(function), KeyGraph.NONE);
            Due.is("run, the row being empty", x.run(function), function == 5 ? 2 : 1);
            Due.asked(x, function);
        }
        Due.is("version stays", x.version(), 0);
    }

    private static void fortyKeys() {
        KeyGraph x = new KeyGraph();
        for (int i = 0; i < 40; i++) {
            Due.is("leaf or key", i % 2 == 0 ? x.leaf(i) : x.key(i % 6), i);
        }
        Due.is("leaf, the 41st", x.leaf(0L), KeyGraph.NONE);
        Due.is("key, the 41st", x.key(0), KeyGraph.NONE);
        Due.value(x, 38, 38L);
        Due.is("state(40)", x.state(40), 0);
    }

    private static void asks() {
        KeyGraph x = new KeyGraph();
        int key = x.key(0);
        int leaf = x.leaf(5L);
        Due.is("asks", x.asks(key, leaf), 1);
        Due.is("version", x.version(), 1);
        Due.is("the same once more", x.asks(key, leaf), 1);
        Due.is("version", x.version(), 2);
        Due.is("run", x.run(key), 1);
        Due.value(x, key, 10L);
        Due.asked(x, key, 0, 1);
        Due.is("asks", x.asks(key, x.leaf(1L)), 1);
        Due.is("not sure any more", x.state(key), 0);
        Due.is("run", x.run(key), 1);
        Due.value(x, key, 11L);
        Due.is("worked out, not checked", x.worked(key), 2);
        Due.asked(x, key, 0, 1, 2);
        Due.is("changed(leaf) stays", x.changed(leaf), 0);
    }

    private static void eightInARow() {
        KeyGraph x = new KeyGraph();
        int key = x.key(0);
        int leaf = x.leaf(3L);
        for (int i = 0; i < 8; i++) {
            Due.is("asks", x.asks(key, leaf), 1);
        }
        Due.is("the ninth", x.asks(key, leaf), -1);
        Due.is("the ninth, with a ring", x.asks(key, key), -1);
        Due.ring(x);
        Due.is("version", x.version(), 8);
        Due.is("run", x.run(key), 1);
        Due.value(x, key, 24L);
        Due.asked(x, key, 0, 1, 2, 3, 4, 5, 6, 7);
    }

    private static void asksWrong() {
        KeyGraph x = new KeyGraph();
        int leaf = x.leaf(3L);
        int key = x.key(0);
        int[] none = {-1, 2, 40, Integer.MAX_VALUE, Integer.MIN_VALUE};
        for (int n : none) {
            Due.is("asks(key, none)", x.asks(key, n), -1);
            Due.is("asks(none, key)", x.asks(n, key), -1);
            Due.is("asks(none, none)", x.asks(n, n), -1);
        }
        Due.is("a leaf asks", x.asks(leaf, key), -1);
        Due.is("a leaf asks itself", x.asks(leaf, leaf), -1);
        Due.is("version", x.version(), 0);
        Due.ring(x);
    }

    private static void asksCancels() {
        KeyGraph x = new KeyGraph();
        int a = x.key(0);
        int b = x.key(0);
        x.begin(0, a);
        Due.is("a ring", x.asks(b, b), -2);
        Due.is("none such", x.asks(b, 9), -1);
        x.leaf(1L);
        x.key(1);
        Due.is("it lies there still", x.begin(1, a), -2);
        Due.is("asks", x.asks(b, a), 1);
        Due.is("cancelled", x.step(0), 0);
        Due.is("nothing is left", x.cancel(), 0);
    }

    private static void ring() {
        KeyGraph x = new KeyGraph();
        int a = x.key(0);
        int b = x.key(0);
        int c = x.key(0);
        Due.is("a asks itself", x.asks(a, a), -2);
        Due.ring(x, a);
        x.asks(a, b);
        Due.ring(x, a);
        Due.is("b asks a", x.asks(b, a), -2);
        Due.ring(x, b, a);
        x.asks(b, c);
        int before = x.version();
        Due.is("c asks a", x.asks(c, a), -2);
        Due.ring(x, c, a, b);
        Due.is("version stays", x.version(), before);
        Due.is("none such", x.asks(c, 77), -1);
        Due.ring(x, c, a, b);
        Due.is("the row of c has not grown", x.run(c), 1);
        Due.asked(x, c);
        Due.is("ring(greatest)", x.ring(Integer.MAX_VALUE), KeyGraph.NONE);
        Due.is("ring(least)", x.ring(Integer.MIN_VALUE), KeyGraph.NONE);
        Due.is("b asks itself", x.asks(b, b), -2);
        Due.ring(x, b);
    }

    private static void ringTakesTheFirstWayBack() {
        KeyGraph x = new KeyGraph();
        int end = x.key(0);
        int leaf = x.leaf(1L);
        int longWay = x.key(0);
        int shortWay = x.key(0);
        int start = x.key(0);
        int middle = x.key(0);
        x.asks(start, leaf);
        x.asks(start, longWay);
        x.asks(start, shortWay);
        x.asks(start, end);
        x.asks(shortWay, end);
        x.asks(longWay, leaf);
        x.asks(longWay, middle);
        x.asks(middle, end);
        Due.is("end asks start", x.asks(end, start), -2);
        Due.ring(x, end, start, longWay, middle);
    }

    private static void ringIsThatOfItsTime() {
        KeyGraph x = new KeyGraph();
        int end = x.key(0);
        int first = x.key(0);
        int second = x.key(0);
        int start = x.key(0);
        x.asks(start, first);
        x.asks(start, second);
        x.asks(second, end);
        Due.is("end asks start", x.asks(end, start), -2);
        x.asks(first, end);
        Due.ring(x, end, start, second);
        Due.is("end asks start again", x.asks(end, start), -2);
        Due.ring(x, end, start, first);
    }

    private static void longestRing() {
        KeyGraph x = new KeyGraph();
        int[] want = new int[40];
        want[0] = x.key(0);
        for (int i = 1; i < 40; i++) {
            want[40 - i] = x.key(0);
            x.asks(i, i - 1);
        }
        Due.is("the first asks the last", x.asks(0, 39), -2);
        Due.ring(x, want);
    }
}
