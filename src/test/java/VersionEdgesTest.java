/** Promises 6, 7 and 19: each edge that the document names of change, spoil and version. */
public final class VersionEdgesTest {
    public static void main(String[] args) {
        Cases.run(VersionEdgesTest.class);
    }

    /** Four workers, each with a key of its own in its pile. */
    private static KeyGraph fourAtWork() {
        KeyGraph x = new KeyGraph();
        x.leaf(1L);
        for (int worker = 0; worker < 4; worker++) {
            Due.is("begin", x.begin(worker, x.key(0)), 1);
        }
        return x;
    }

    private static void allCancelled(KeyGraph x) {
        for (int worker = 0; worker < 4; worker++) {
            Due.is("step(" + worker + ")", x.step(worker), 0);
        }
        Due.is("cancel()", x.cancel(), 0);
        Due.is("free again", x.begin(0, 1), 1);
        Due.is("nothing was worked out", x.worked(1), 0);
    }

    static void p06_theSameValue() {
        Busy busy = new Busy();
        Due.is("change", busy.x.change(Busy.LEAF, 6L), busy.x.version());
        busy.unchanged();
    }

    static void p06_theSameValueInALaterVersion() {
        KeyGraph x = new KeyGraph();
        int leaf = x.leaf(1L);
        x.change(x.leaf(1L), 2L);
        x.spoil(x.key(0), true);
        Due.is("the version, not that of its value", x.change(leaf, 1L), 2);
        Due.is("changed", x.changed(leaf), 0);
    }

    static void p06_anotherValue() {
        Busy busy = new Busy();
        int before = busy.x.version();
        Due.is("change", busy.x.change(Busy.LEAF, 7L), before + 1);
        Due.is("version", busy.x.version(), before + 1);
        Due.is("changed", busy.x.changed(Busy.LEAF), before + 1);
        Due.value(busy.x, Busy.LEAF, 7L);
    }

    static void p06_anotherInTheHigherBitsAlone() {
        KeyGraph x = new KeyGraph();
        int leaf = x.leaf(5L);
        Due.is("change", x.change(leaf, 5L + (1L << 32)), 1);
        Due.value(x, leaf, 5L + (1L << 32));
    }

    static void p06_fromTheLeastToTheGreatest() {
        KeyGraph x = new KeyGraph();
        int leaf = x.leaf(Long.MIN_VALUE);
        Due.is("the same", x.change(leaf, Long.MIN_VALUE), 0);
        Due.is("another", x.change(leaf, Long.MAX_VALUE), 1);
        Due.value(x, leaf, Long.MAX_VALUE);
        Due.is("the same", x.change(leaf, Long.MAX_VALUE), 1);
    }

    static void p06_toZeroAndFromIt() {
        KeyGraph x = new KeyGraph();
        int leaf = x.leaf(1L);
        Due.is("to 0", x.change(leaf, 0L), 1);
        Due.is("the same", x.change(leaf, 0L), 1);
        Due.is("from 0", x.change(leaf, -1L), 2);
    }

    static void p06_backAgain() {
        KeyGraph x = new KeyGraph();
        int leaf = x.leaf(1L);
        x.change(leaf, 2L);
        Due.is("back", x.change(leaf, 1L), 2);
        Due.is("changed", x.changed(leaf), 2);
    }

    static void p06_thatOfTheFortieth() {
        KeyGraph x = new KeyGraph();
        for (int i = 0; i < 40; i++) {
            x.leaf(i);
        }
        Due.is("change(39)", x.change(39, 0L), 1);
        Due.value(x, 39, 0L);
        Due.is("change(40)", x.change(40, 0L), KeyGraph.NONE);
    }

    static void p06_aKeyWithAFunction() {
        Busy busy = new Busy();
        Due.is("sure", busy.x.change(Busy.SURE, 1L), KeyGraph.NONE);
        Due.is("not kept", busy.x.change(Busy.BENEATH, 1L), KeyGraph.NONE);
        busy.unchanged();
    }

    static void p06_noneSuch() {
        Busy busy = new Busy();
        Due.is("the next to be made", busy.x.change(Busy.KEYS, 1L), KeyGraph.NONE);
        for (int none : Due.FAR_OFF) {
            Due.is("change(" + none + ")", busy.x.change(none, 1L), KeyGraph.NONE);
        }
        busy.unchanged();
    }

    static void p06_allIsCancelled() {
        KeyGraph x = fourAtWork();
        x.change(0, 2L);
        allCancelled(x);
    }

    static void p06_nothingIsSureButLeaves() {
        Busy busy = new Busy();
        int alone = busy.x.leaf(1L);
        Due.is("sure before", busy.x.state(Busy.SURE), 1);
        busy.x.change(alone, 2L);
        Due.is("though it doesn't ask that leaf", busy.x.state(Busy.SURE), 0);
        Due.is("a leaf", busy.x.state(Busy.LEAF), 1);
        Due.is("the leaf itself", busy.x.state(alone), 1);
        Due.value(busy.x, alone, 2L);
    }

    static void p07_notSpoiltAndOff() {
        Busy busy = new Busy();
        Due.is("spoil", busy.x.spoil(Busy.SURE, false), busy.x.version());
        busy.unchanged();
    }

    static void p07_spoiltAndOn() {
        Busy busy = new Busy();
        busy.x.cancel();
        busy.x.spoil(Busy.SURE, true);
        busy.x.begin(Busy.WORKER, Busy.BEGUN);
        busy.x.step(Busy.WORKER);
        busy.x.begin(Busy.OTHER_WORKER, Busy.ALSO_BEGUN);
        busy.remember();
        Due.is("spoil", busy.x.spoil(Busy.SURE, true), busy.x.version());
        busy.unchanged();
    }

    static void p07_asItIsInALaterVersion() {
        KeyGraph x = new KeyGraph();
        int key = x.key(0);
        x.spoil(key, true);
        x.change(x.leaf(1L), 2L);
        Due.is("the version, not that of its spoiling", x.spoil(key, true), 2);
    }

    static void p07_on() {
        Busy busy = new Busy();
        int before = busy.x.version();
        Due.is("spoil", busy.x.spoil(Busy.SURE, true), before + 1);
        Due.is("version", busy.x.version(), before + 1);
        Due.is("not sure", busy.x.state(Busy.SURE), 0);
        Due.is("run", busy.x.run(Busy.SURE), 2);
    }

    static void p07_off() {
        KeyGraph x = new KeyGraph();
        int key = Due.keyOver(x, 0, 4L);
        x.spoil(key, true);
        x.run(key);
        Due.is("spoil", x.spoil(key, false), 3);
        Due.is("not sure", x.state(key), 0);
        Due.is("run", x.run(key), 1);
        Due.value(x, key, 4L);
    }

    static void p07_beforeItWasEverFound() {
        KeyGraph x = new KeyGraph();
        int key = x.key(0);
        Due.is("spoil", x.spoil(key, true), 1);
        Due.is("changed", x.changed(key), KeyGraph.NONE);
        Due.is("run", x.run(key), 2);
        Due.is("changed", x.changed(key), 1);
    }

    static void p07_theFortieth() {
        KeyGraph x = new KeyGraph();
        for (int i = 0; i < 40; i++) {
            x.key(0);
        }
        Due.is("spoil(39)", x.spoil(39, true), 1);
        Due.is("run(39)", x.run(39), 2);
        Due.is("run(38)", x.run(38), 1);
        Due.is("spoil(40)", x.spoil(40, true), KeyGraph.NONE);
    }

    static void p07_aLeaf() {
        Busy busy = new Busy();
        Due.is("on", busy.x.spoil(Busy.LEAF, true), KeyGraph.NONE);
        Due.is("off", busy.x.spoil(Busy.LEAF, false), KeyGraph.NONE);
        busy.unchanged();
    }

    static void p07_noneSuch() {
        Busy busy = new Busy();
        Due.is("the next to be made", busy.x.spoil(Busy.KEYS, true), KeyGraph.NONE);
        for (int none : Due.FAR_OFF) {
            Due.is("spoil(" + none + ", true)", busy.x.spoil(none, true), KeyGraph.NONE);
            Due.is("spoil(" + none + ", false)", busy.x.spoil(none, false), KeyGraph.NONE);
        }
        busy.unchanged();
    }

    static void p07_allIsCancelledByOn() {
        KeyGraph x = fourAtWork();
        x.spoil(4, true);
        allCancelled(x);
    }

    static void p07_allIsCancelledByOff() {
        KeyGraph x = new KeyGraph();
        x.leaf(1L);
        int spoilt = 5;
        for (int key = 1; key <= spoilt; key++) {
            x.key(0);
        }
        x.spoil(spoilt, true);
        for (int worker = 0; worker < 4; worker++) {
            x.begin(worker, worker + 1);
        }
        x.spoil(spoilt, false);
        allCancelled(x);
    }

    static void p07_dropLeavesItSpoilt() {
        KeyGraph x = new KeyGraph();
        int key = Due.keyOver(x, 0, 4L);
        x.spoil(key, true);
        x.run(key);
        x.drop(key);
        Due.is("as it is", x.spoil(key, true), 2);
        Due.is("run", x.run(key), 2);
    }

    static void p19_zeroAtFirst() {
        Due.is("version", new KeyGraph().version(), 0);
    }

    static void p19_aLeafGetsAnotherValue() {
        KeyGraph x = new KeyGraph();
        x.change(x.leaf(1L), 2L);
        Due.is("version", x.version(), 1);
    }

    static void p19_aRowOneKeyMore() {
        KeyGraph x = new KeyGraph();
        x.asks(x.key(0), x.leaf(1L));
        Due.is("version", x.version(), 1);
    }

    static void p19_aKeyIsSpoilt() {
        KeyGraph x = new KeyGraph();
        x.spoil(x.key(0), true);
        Due.is("version", x.version(), 1);
    }

    static void p19_aKeyIsNotSpoiltAnyMore() {
        KeyGraph x = new KeyGraph();
        int key = x.key(0);
        x.spoil(key, true);
        x.spoil(key, false);
        Due.is("version", x.version(), 2);
    }

    static void p19_notByFinding() {
        Busy busy = new Busy();
        int before = busy.x.version();
        busy.x.step(Busy.WORKER);
        busy.x.run(Busy.KEPT);
        busy.x.begin(Busy.IDLE_WORKER, Busy.FULL);
        Due.same("steps", Due.allSteps(busy.x, Busy.IDLE_WORKER), "6666666620");
        busy.x.cancel();
        Due.is("drop", busy.x.drop(Busy.KEPT), true);
        Due.is("version", busy.x.version(), before);
    }

    static void p19_greaterByOneEachTime() {
        KeyGraph x = new KeyGraph();
        int leaf = x.leaf(0L);
        for (int i = 1; i <= 500; i++) {
            Due.is("change", x.change(leaf, i), i);
        }
        Due.is("version", x.version(), 500);
        Due.is("changed", x.changed(leaf), 500);
    }
}
