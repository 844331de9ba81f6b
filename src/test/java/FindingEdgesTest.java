/** Promises 11 to 18: each edge that the document names of run and of what is told of a key. */
public final class FindingEdgesTest {
    public static void main(String[] args) {
        Cases.run(FindingEdgesTest.class);
    }

    /** A new version in which no key that was there is altered. */
    private static void anotherVersion(KeyGraph x) {
        x.change(x.leaf(0L), 1L);
    }

    /** A key that fails itself, and one that fails by it. */
    private static int failing(KeyGraph x) {
        int bad = x.key(5);
        x.asks(x.key(0), bad);
        return bad;
    }

    static void p11_noneSuch() {
        Busy busy = new Busy();
        Due.is("the next to be made", busy.x.run(Busy.KEYS), -1);
        for (int none : Due.FAR_OFF) {
            Due.is("run(" + none + ")", busy.x.run(none), -1);
        }
        busy.unchanged();
    }

    static void p11_theFortieth() {
        KeyGraph x = new KeyGraph();
        for (int i = 0; i < 40; i++) {
            x.key(5);
        }
        Due.is("run(39)", x.run(39), 2);
        Due.is("run(40)", x.run(40), -1);
    }

    static void p11_aLeaf() {
        Busy busy = new Busy();
        Due.is("run", busy.x.run(Busy.LEAF), 1);
        busy.unchanged();
    }

    static void p11_aSureKey() {
        Busy busy = new Busy();
        Due.is("run", busy.x.run(Busy.SURE), 1);
        busy.unchanged();
    }

    static void p11_anEmptyRow() {
        KeyGraph x = new KeyGraph();
        int key = x.key(0);
        Due.is("run", x.run(key), 1);
        Due.value(x, key, 0L);
    }

    static void p11_failedItself() {
        KeyGraph x = new KeyGraph();
        int bad = failing(x);
        Due.is("run", x.run(bad), 2);
        Due.is("run of a sure one", x.run(bad), 2);
    }

    static void p11_failedByAnother() {
        KeyGraph x = new KeyGraph();
        int bad = failing(x);
        Due.is("run", x.run(bad + 1), 3);
        Due.is("run of a sure one", x.run(bad + 1), 3);
        Due.is("state of the other", x.state(bad), 2);
    }

    static void p11_aWorkerHasItAtTheBottom() {
        Busy busy = new Busy();
        busy.x.step(Busy.WORKER);
        Due.is("run", busy.x.run(Busy.BEGUN), -2);
        Due.is("nothing was found", busy.x.state(Busy.BENEATH), 0);
        Due.is("keys in piles", busy.x.cancel(), 3);
    }

    static void p11_aWorkerHasItOnTop() {
        Busy busy = new Busy();
        Due.is("run", busy.x.run(Busy.ALSO_BEGUN), -2);
        busy.unchanged();
    }

    static void p11_whatItAsksWouldHaveToBeWaitedFor() {
        KeyGraph x = new KeyGraph();
        int held = x.key(0);
        int key = x.key(0);
        x.asks(key, held);
        x.begin(2, held);
        Due.is("run", x.run(key), -2);
        Due.is("again", x.run(key), -2);
        Due.is("state", x.state(key), 0);
        Due.is("worked", x.worked(key), 0);
    }

    static void p11_whatItChecksWouldHaveToBeWaitedFor() {
        KeyGraph x = new KeyGraph();
        int held = Due.keyOver(x, 0, 1L);
        int key = x.key(0);
        x.asks(key, held);
        x.run(key);
        anotherVersion(x);
        x.begin(2, held);
        Due.is("run", x.run(key), -2);
        Due.is("kept", x.kept(key), 0);
        Due.same("the worker's steps", Due.allSteps(x, 2), "420");
        Due.is("run", x.run(key), 1);
        Due.is("kept", x.kept(key), 1);
    }

    static void p11_whatWasFoundBeforeItWaitedStaysSure() {
        KeyGraph x = new KeyGraph();
        int free = Due.keyOver(x, 0, 4L);
        int held = x.key(0);
        int key = x.key(0);
        x.asks(key, free);
        x.asks(key, held);
        x.begin(0, held);
        Due.is("run", x.run(key), -2);
        Due.is("state", x.state(free), 1);
        Due.value(x, free, 4L);
        Due.is("worked", x.worked(free), 1);
        x.step(0);
        Due.is("run", x.run(key), 1);
        Due.is("not worked out again", x.worked(free), 1);
    }

    static void p11_whatItHadInHandIsFreeWhenItWaited() {
        KeyGraph x = new KeyGraph();
        int held = x.key(0);
        int middle = x.key(0);
        int key = x.key(0);
        x.asks(middle, held);
        x.asks(key, middle);
        x.begin(0, held);
        Due.is("run", x.run(key), -2);
        Due.is("begin", x.begin(1, key), 1);
        Due.is("on top", x.step(1), 1);
        Due.is("waits", x.step(1), 3);
        Due.is("cancel()", x.cancel(), 3);
    }

    static void p11_theWorkersGoOnWhenItWaited() {
        Busy busy = new Busy();
        int key = busy.x.key(0);
        busy.x.asks(key, Busy.BENEATH);
        busy.x.run(Busy.SURE);
        busy.x.begin(Busy.WORKER, Busy.BEGUN);
        busy.x.step(Busy.WORKER);
        busy.x.step(Busy.WORKER);
        Due.is("run", busy.x.run(key), -2);
        Due.same("the worker's steps", Due.allSteps(busy.x, Busy.WORKER), "2620");
        Due.is("run", busy.x.run(key), 1);
    }

    static void p11_whatItDoesNotAskIsNoHindrance() {
        KeyGraph x = new KeyGraph();
        int held = x.key(0);
        int key = Due.keyOver(x, 1, 7L);
        x.asks(key, held);
        x.begin(0, held);
        Due.is("run", x.run(key), 1);
        Due.held(x, 1, held);
    }

    static void p11_aSpoiltOneDoesNotWait() {
        KeyGraph x = new KeyGraph();
        int held = x.key(0);
        int key = x.key(0);
        x.asks(key, held);
        x.spoil(key, true);
        x.begin(0, held);
        Due.is("run", x.run(key), 2);
    }

    static void p11_aFailureBeforeItIsNoWaiting() {
        KeyGraph x = new KeyGraph();
        int bad = x.key(5);
        int held = x.key(0);
        int key = x.key(0);
        x.asks(key, bad);
        x.asks(key, held);
        x.begin(0, held);
        Due.is("run", x.run(key), 3);
    }

    static void p11_aSureOneDoesNotWaitForADroppedOne() {
        KeyGraph x = new KeyGraph();
        int below = x.key(0);
        int key = x.key(0);
        x.asks(key, below);
        x.run(key);
        x.drop(below);
        x.begin(0, below);
        Due.is("run", x.run(key), 1);
        Due.held(x, 1, below);
    }

    static void p11_allFortyDeep() {
        KeyGraph x = new KeyGraph();
        x.key(0);
        for (int i = 1; i < 40; i++) {
            x.key(0);
            x.asks(i, i - 1);
        }
        Due.is("run(39)", x.run(39), 1);
        for (int i = 0; i < 40; i++) {
            Due.is("worked(" + i + ")", x.worked(i), 1);
        }
    }

    static void p11_fullRowsAllTheWay() {
        KeyGraph x = new KeyGraph();
        x.leaf(1L);
        for (int i = 1; i < 40; i++) {
            x.key(0);
            for (int n = 0; n < 8; n++) {
                x.asks(i, i - 1);
            }
        }
        Due.is("run(39)", x.run(39), 1);
        Due.value(x, 39, 0L);
        Due.value(x, 21, 1L << 63);
        Due.is("worked(1)", x.worked(1), 1);
    }

    static void p12_noneSuch() {
        Busy busy = new Busy();
        Due.is("the next to be made", busy.x.state(Busy.KEYS), 0);
        for (int none : Due.FAR_OFF) {
            Due.is("state(" + none + ")", busy.x.state(none), 0);
        }
        busy.unchanged();
    }

    static void p12_aLeaf() {
        KeyGraph x = new KeyGraph();
        int leaf = x.leaf(0L);
        Due.is("state", x.state(leaf), 1);
        x.change(leaf, 1L);
        Due.is("state", x.state(leaf), 1);
        anotherVersion(x);
        Due.is("state in a version in which it didn't change", x.state(leaf), 1);
    }

    static void p12_neverFound() {
        KeyGraph x = new KeyGraph();
        Due.is("state", x.state(x.key(0)), 0);
    }

    static void p12_aValueOfZero() {
        KeyGraph x = new KeyGraph();
        int key = x.key(0);
        x.run(key);
        Due.is("state", x.state(key), 1);
    }

    static void p12_failures() {
        KeyGraph x = new KeyGraph();
        int bad = failing(x);
        x.run(bad + 1);
        Due.is("itself", x.state(bad), 2);
        Due.is("by another", x.state(bad + 1), 3);
    }

    static void p12_inAnotherVersion() {
        KeyGraph x = new KeyGraph();
        int bad = failing(x);
        int key = Due.keyOver(x, 0, 1L);
        x.run(bad + 1);
        x.run(key);
        anotherVersion(x);
        Due.is("a value", x.state(key), 0);
        Due.is("failed itself", x.state(bad), 0);
        Due.is("failed by another", x.state(bad + 1), 0);
    }

    static void p12_whileItIsInAPile() {
        KeyGraph x = new KeyGraph();
        int key = Due.keyOver(x, 0, 1L);
        x.begin(0, key);
        Due.is("begun", x.state(key), 0);
        x.step(0);
        Due.is("all is taken, but it is there still", x.state(key), 0);
        x.step(0);
        Due.is("gone", x.state(key), 1);
    }

    static void p12_dropped() {
        KeyGraph x = new KeyGraph();
        int key = x.key(0);
        x.run(key);
        x.drop(key);
        Due.is("state", x.state(key), 0);
    }

    static void p13_noneSuch() {
        Busy busy = new Busy();
        Due.valueThrows(busy.x, Busy.KEYS, Due.ILLEGAL_ARGUMENT);
        for (int none : Due.FAR_OFF) {
            Due.valueThrows(busy.x, none, Due.ILLEGAL_ARGUMENT);
        }
        busy.unchanged();
    }

    static void p13_noneSuchAmongForty() {
        KeyGraph x = new KeyGraph();
        for (int i = 0; i < 40; i++) {
            x.leaf(i);
        }
        Due.value(x, 39, 39L);
        Due.valueThrows(x, 40, Due.ILLEGAL_ARGUMENT);
    }

    static void p13_neverFound() {
        KeyGraph x = new KeyGraph();
        Due.valueThrows(x, x.key(0), Due.ILLEGAL_STATE);
    }

    static void p13_inAnotherVersion() {
        Busy busy = new Busy();
        Due.valueThrows(busy.x, Busy.KEPT, Due.ILLEGAL_STATE);
        busy.unchanged();
    }

    static void p13_failedItself() {
        KeyGraph x = new KeyGraph();
        int bad = failing(x);
        x.run(bad);
        Due.valueThrows(x, bad, Due.ILLEGAL_STATE);
    }

    static void p13_failedByAnother() {
        KeyGraph x = new KeyGraph();
        int bad = failing(x);
        x.run(bad + 1);
        Due.valueThrows(x, bad + 1, Due.ILLEGAL_STATE);
    }

    static void p13_failedWhereItHadAValue() {
        KeyGraph x = new KeyGraph();
        int key = Due.keyOver(x, 0, 4L);
        x.run(key);
        x.spoil(key, true);
        x.run(key);
        Due.valueThrows(x, key, Due.ILLEGAL_STATE);
    }

    static void p13_whileItIsInAPile() {
        Busy busy = new Busy();
        Due.valueThrows(busy.x, Busy.BEGUN, Due.ILLEGAL_STATE);
        busy.unchanged();
    }

    static void p13_dropped() {
        Busy busy = new Busy();
        busy.x.drop(Busy.SURE);
        Due.valueThrows(busy.x, Busy.SURE, Due.ILLEGAL_STATE);
    }

    static void p13_leastAndGreatest() {
        KeyGraph x = new KeyGraph();
        int least = Due.keyOver(x, 0, Long.MIN_VALUE);
        int greatest = Due.keyOver(x, 0, Long.MAX_VALUE);
        x.run(least);
        x.run(greatest);
        Due.value(x, least, Long.MIN_VALUE);
        Due.value(x, greatest, Long.MAX_VALUE);
    }

    static void p14_noneSuch() {
        KeyGraph x = new KeyGraph();
        x.run(x.key(0));
        Due.is("the next to be made", x.worked(1), 0);
        for (int none : Due.FAR_OFF) {
            Due.is("worked(" + none + ")", x.worked(none), 0);
        }
    }

    static void p14_aLeaf() {
        KeyGraph x = new KeyGraph();
        int leaf = x.leaf(1L);
        x.run(leaf);
        x.change(leaf, 2L);
        Due.is("worked", x.worked(leaf), 0);
    }

    static void p14_notToItsEnd() {
        KeyGraph x = new KeyGraph();
        int key = Due.keyOver(x, 0, 1L);
        x.begin(0, key);
        x.step(0);
        Due.is("all is taken, but it is there still", x.worked(key), 0);
        x.cancel();
        Due.is("cancelled", x.worked(key), 0);
        x.run(key);
        Due.is("to its end", x.worked(key), 1);
    }

    static void p14_failures() {
        KeyGraph x = new KeyGraph();
        int bad = failing(x);
        x.run(bad + 1);
        Due.is("failed itself", x.worked(bad), 1);
        Due.is("failed by another", x.worked(bad + 1), 1);
    }

    static void p14_aSpoiltOne() {
        KeyGraph x = new KeyGraph();
        int key = x.key(0);
        x.spoil(key, true);
        x.run(key);
        Due.is("worked", x.worked(key), 1);
    }

    static void p14_notByACheck() {
        KeyGraph x = new KeyGraph();
        int key = Due.keyOver(x, 0, 1L);
        x.run(key);
        anotherVersion(x);
        x.run(key);
        Due.is("worked", x.worked(key), 1);
    }

    static void p14_toTheSameValue() {
        KeyGraph x = new KeyGraph();
        int key = Due.keyOver(x, 4, 1L);
        x.run(key);
        x.change(key + 1, 3L);
        x.run(key);
        Due.is("worked", x.worked(key), 2);
    }

    static void p14_dropped() {
        KeyGraph x = new KeyGraph();
        int key = x.key(0);
        x.run(key);
        x.drop(key);
        Due.is("worked", x.worked(key), 1);
        x.run(key);
        Due.is("worked", x.worked(key), 2);
    }

    static void p15_noneSuch() {
        KeyGraph x = new KeyGraph();
        x.run(x.key(0));
        anotherVersion(x);
        x.run(0);
        Due.is("kept(0)", x.kept(0), 1);
        Due.is("the next to be made", x.kept(2), 0);
        for (int none : Due.FAR_OFF) {
            Due.is("kept(" + none + ")", x.kept(none), 0);
        }
    }

    static void p15_aLeaf() {
        KeyGraph x = new KeyGraph();
        int leaf = x.leaf(1L);
        x.run(leaf);
        anotherVersion(x);
        x.run(leaf);
        Due.is("kept", x.kept(leaf), 0);
    }

    static void p15_notByWork() {
        KeyGraph x = new KeyGraph();
        int key = x.key(0);
        x.run(key);
        Due.is("kept", x.kept(key), 0);
    }

    static void p15_notWhenItIsSure() {
        KeyGraph x = new KeyGraph();
        int key = x.key(0);
        x.run(key);
        x.run(key);
        x.begin(0, key);
        Due.is("kept", x.kept(key), 0);
    }

    static void p15_aCheckThatAsksNothing() {
        KeyGraph x = new KeyGraph();
        int key = x.key(0);
        x.run(key);
        anotherVersion(x);
        x.begin(0, key);
        Due.same("steps", Due.allSteps(x, 0), "20");
        Due.is("kept", x.kept(key), 1);
        Due.is("worked", x.worked(key), 1);
    }

    static void p15_aCheckNotToItsEnd() {
        KeyGraph x = new KeyGraph();
        int key = Due.keyOver(x, 0, 1L);
        x.run(key);
        anotherVersion(x);
        x.begin(0, key);
        x.step(0);
        Due.is("all is passed, but it is there still", x.kept(key), 0);
        x.cancel();
        Due.is("cancelled", x.kept(key), 0);
    }

    static void p15_aCheckThatEndedInWork() {
        KeyGraph x = new KeyGraph();
        int key = Due.keyOver(x, 4, 1L, 2L);
        x.run(key);
        x.change(key + 2, 4L);
        x.run(key);
        Due.is("kept", x.kept(key), 0);
        Due.is("worked", x.worked(key), 2);
    }

    static void p15_aCheckOfAFailure() {
        KeyGraph x = new KeyGraph();
        int bad = failing(x);
        x.run(bad + 1);
        anotherVersion(x);
        Due.is("run", x.run(bad + 1), 3);
        Due.is("failed itself", x.kept(bad), 1);
        Due.is("failed by another", x.kept(bad + 1), 1);
    }

    static void p15_dropped() {
        KeyGraph x = new KeyGraph();
        int key = x.key(0);
        x.run(key);
        anotherVersion(x);
        x.run(key);
        x.drop(key);
        Due.is("kept", x.kept(key), 1);
    }

    static void p16_noneSuch() {
        Busy busy = new Busy();
        Due.is("the next to be made", busy.x.changed(Busy.KEYS), KeyGraph.NONE);
        for (int none : Due.FAR_OFF) {
            Due.is("changed(" + none + ")", busy.x.changed(none), KeyGraph.NONE);
        }
        busy.unchanged();
    }

    static void p16_neverFound() {
        KeyGraph x = new KeyGraph();
        Due.is("changed", x.changed(x.key(0)), KeyGraph.NONE);
    }

    static void p16_beingWorkedOutForTheFirstTime() {
        Busy busy = new Busy();
        Due.is("changed", busy.x.changed(Busy.BEGUN), KeyGraph.NONE);
    }

    static void p16_dropped() {
        KeyGraph x = new KeyGraph();
        int key = x.key(0);
        x.run(key);
        Due.is("changed", x.changed(key), 0);
        x.drop(key);
        Due.is("changed", x.changed(key), KeyGraph.NONE);
    }

    static void p16_keptButNotSure() {
        KeyGraph x = new KeyGraph();
        int key = Due.keyOver(x, 0, 1L);
        x.run(key);
        x.change(key + 1, 2L);
        Due.is("changed", x.changed(key), 1);
    }

    static void p16_beingWorkedOutAgain() {
        KeyGraph x = new KeyGraph();
        int key = Due.keyOver(x, 0, 1L);
        x.run(key);
        x.change(key + 1, 2L);
        x.begin(0, key);
        Due.steps("not to its end", x, 0, 5, 6);
        Due.is("changed", x.changed(key), 1);
        x.step(0);
        Due.is("changed", x.changed(key), 2);
    }

    static void p16_theSameValueAgain() {
        KeyGraph x = new KeyGraph();
        int key = Due.keyOver(x, 4, 1L);
        x.run(key);
        x.change(key + 1, 3L);
        x.run(key);
        Due.is("changed", x.changed(key), 1);
    }

    static void p16_anotherInTheHigherBitsAlone() {
        KeyGraph x = new KeyGraph();
        int key = Due.keyOver(x, 0, 1L);
        x.run(key);
        x.change(key + 1, 1L + (1L << 32));
        x.run(key);
        Due.is("changed", x.changed(key), 2);
    }

    static void p16_theSameValueOfWhatWasNotKept() {
        KeyGraph x = new KeyGraph();
        int key = Due.keyOver(x, 0, 1L);
        x.run(key);
        x.change(x.leaf(0L), 1L);
        x.drop(key);
        x.run(key);
        Due.is("this version", x.changed(key), 2);
    }

    static void p16_fromZeroToAFailure() {
        KeyGraph x = new KeyGraph();
        int key = x.key(0);
        x.run(key);
        x.spoil(key, true);
        x.run(key);
        Due.is("changed", x.changed(key), 1);
    }

    static void p16_fromAFailureToZero() {
        KeyGraph x = new KeyGraph();
        int key = x.key(0);
        x.spoil(key, true);
        x.run(key);
        x.spoil(key, false);
        x.run(key);
        Due.is("changed", x.changed(key), 2);
    }

    static void p16_fromFailedByAnotherToFailedItself() {
        KeyGraph x = new KeyGraph();
        int bad = failing(x);
        x.run(bad + 1);
        Due.is("changed", x.changed(bad + 1), 1);
        x.spoil(bad + 1, true);
        x.run(bad + 1);
        Due.is("changed", x.changed(bad + 1), 2);
    }

    static void p16_failedItselfAgain() {
        KeyGraph x = new KeyGraph();
        int bad = x.key(5);
        x.run(bad);
        x.spoil(bad, true);
        x.run(bad);
        Due.is("worked", x.worked(bad), 2);
        Due.is("changed", x.changed(bad), 0);
    }

    static void p16_failedByYetAnother() {
        KeyGraph x = new KeyGraph();
        int first = x.key(5);
        int second = x.key(5);
        int key = x.key(0);
        x.asks(key, first);
        x.asks(key, second);
        x.run(key);
        x.asks(first, x.leaf(1L));
        Due.is("run", x.run(key), 3);
        Due.asked(x, key, 0, 1);
        Due.is("changed", x.changed(key), 2);
    }

    static void p16_aLeaf() {
        KeyGraph x = new KeyGraph();
        int leaf = x.leaf(1L);
        Due.is("changed", x.changed(leaf), 0);
        x.spoil(x.key(0), true);
        Due.is("changed", x.changed(leaf), 0);
        x.change(leaf, 1L);
        Due.is("changed", x.changed(leaf), 0);
        x.change(leaf, 2L);
        Due.is("changed", x.changed(leaf), 2);
    }

    static void p17_beforeTheFirst() {
        KeyGraph x = new KeyGraph();
        int key = Due.keyOver(x, 0, 1L);
        x.run(key);
        Due.is("asked(key, -1)", x.asked(key, -1), KeyGraph.NONE);
        Due.is("asked(key, 0)", x.asked(key, 0), 0);
    }

    static void p17_behindTheLast() {
        KeyGraph x = new KeyGraph();
        int key = Due.keyOver(x, 0, 1L, 2L);
        x.run(key);
        Due.is("asked(key, 1)", x.asked(key, 1), 1);
        Due.is("asked(key, 2)", x.asked(key, 2), KeyGraph.NONE);
    }

    static void p17_ofAFullRow() {
        KeyGraph x = new KeyGraph();
        int key = Due.keyOver(x, 0, 1L, 2L, 3L, 4L, 5L, 6L, 7L, 8L);
        x.run(key);
        Due.is("asked(key, 7)", x.asked(key, 7), 7);
        Due.is("asked(key, 8)", x.asked(key, 8), KeyGraph.NONE);
        for (int i : Due.FAR_OFF) {
            Due.is("asked(key, " + i + ")", x.asked(key, i), KeyGraph.NONE);
        }
    }

    static void p17_ofAnEmptyRow() {
        KeyGraph x = new KeyGraph();
        int key = x.key(0);
        x.run(key);
        Due.is("asked(key, 0)", x.asked(key, 0), KeyGraph.NONE);
    }

    static void p17_noneSuch() {
        Busy busy = new Busy();
        Due.is("the next to be made", busy.x.asked(Busy.KEYS, 0), KeyGraph.NONE);
        for (int none : Due.FAR_OFF) {
            Due.is("asked(" + none + ", 0)", busy.x.asked(none, 0), KeyGraph.NONE);
        }
        busy.unchanged();
    }

    static void p17_aLeaf() {
        KeyGraph x = new KeyGraph();
        Due.asked(x, x.leaf(1L));
    }

    static void p17_neverFound() {
        KeyGraph x = new KeyGraph();
        Due.asked(x, Due.keyOver(x, 0, 1L));
    }

    static void p17_beingWorkedOutForTheFirstTime() {
        KeyGraph x = new KeyGraph();
        int key = Due.keyOver(x, 0, 1L);
        x.begin(0, key);
        Due.steps("taken", x, 0, 6);
        Due.asked(x, key);
    }

    static void p17_beingWorkedOutAgain() {
        KeyGraph x = new KeyGraph();
        int key = Due.keyOver(x, 1, 0L, 1L);
        x.run(key);
        x.change(key + 1, 5L);
        x.begin(0, key);
        Due.steps("not to its end", x, 0, 5, 6);
        Due.asked(x, key, 0, 1);
        x.step(0);
        Due.asked(x, key, 0);
    }

    static void p17_keptButNotSure() {
        KeyGraph x = new KeyGraph();
        int key = Due.keyOver(x, 0, 1L, 2L);
        x.run(key);
        x.asks(key, x.leaf(3L));
        Due.asked(x, key, 0, 1);
    }

    static void p17_dropped() {
        KeyGraph x = new KeyGraph();
        int key = Due.keyOver(x, 0, 1L, 2L);
        x.run(key);
        x.drop(key);
        Due.asked(x, key);
    }

    static void p17_theOneThatHadFailedToo() {
        KeyGraph x = new KeyGraph();
        int bad = x.key(5);
        int key = Due.keyOver(x, 0, 1L);
        x.asks(key, bad);
        x.asks(key, bad);
        x.run(key);
        Due.asked(x, key, 0, 1);
    }

    static void p17_placesNotKeys() {
        KeyGraph x = new KeyGraph();
        int leaf = x.leaf(1L);
        int other = x.leaf(2L);
        int key = x.key(0);
        x.asks(key, other);
        x.asks(key, other);
        x.asks(key, leaf);
        x.run(key);
        Due.asked(x, key, 0, 1, 2);
    }

    static void p17_spoilt() {
        KeyGraph x = new KeyGraph();
        int key = Due.keyOver(x, 0, 1L, 2L);
        x.run(key);
        x.spoil(key, true);
        x.run(key);
        Due.asked(x, key);
    }

    static void p17_notByACheck() {
        KeyGraph x = new KeyGraph();
        int key = Due.keyOver(x, 2, 5L, 1L, 2L, 3L);
        x.run(key);
        Due.asked(x, key, 0, 3);
        anotherVersion(x);
        x.run(key);
        Due.is("kept", x.kept(key), 1);
        Due.asked(x, key, 0, 3);
    }

    static void p18_noneSuch() {
        Busy busy = new Busy();
        Due.is("the next to be made", busy.x.drop(Busy.KEYS), false);
        for (int none : Due.FAR_OFF) {
            Due.is("drop(" + none + ")", busy.x.drop(none), false);
        }
        busy.unchanged();
    }

    static void p18_aLeaf() {
        Busy busy = new Busy();
        Due.is("drop", busy.x.drop(Busy.LEAF), false);
        busy.unchanged();
    }

    static void p18_neverFound() {
        Busy busy = new Busy();
        Due.is("drop", busy.x.drop(Busy.FULL), false);
        busy.unchanged();
    }

    static void p18_beingWorkedOutForTheFirstTime() {
        Busy busy = new Busy();
        Due.is("drop", busy.x.drop(Busy.BEGUN), false);
        busy.unchanged();
    }

    static void p18_droppedTwice() {
        Busy busy = new Busy();
        Due.is("drop", busy.x.drop(Busy.SURE), true);
        busy.x.begin(Busy.WORKER, Busy.BEGUN);
        busy.x.step(Busy.WORKER);
        busy.x.begin(Busy.OTHER_WORKER, Busy.ALSO_BEGUN);
        busy.remember();
        Due.is("drop again", busy.x.drop(Busy.SURE), false);
        busy.unchanged();
    }

    static void p18_aSureOne() {
        Busy busy = new Busy();
        Due.is("drop", busy.x.drop(Busy.SURE), true);
        Due.is("nor sure", busy.x.state(Busy.SURE), 0);
        Due.is("run", busy.x.run(Busy.SURE), 1);
        Due.value(busy.x, Busy.SURE, 6L);
    }

    static void p18_keptButNotSure() {
        Busy busy = new Busy();
        Due.is("drop", busy.x.drop(Busy.KEPT), true);
        Due.is("changed", busy.x.changed(Busy.KEPT), KeyGraph.NONE);
    }

    static void p18_failedOnes() {
        KeyGraph x = new KeyGraph();
        int bad = failing(x);
        x.run(bad + 1);
        Due.is("failed itself", x.drop(bad), true);
        Due.is("failed by another", x.drop(bad + 1), true);
        Due.is("run", x.run(bad + 1), 3);
    }

    static void p18_beingChecked() {
        KeyGraph x = new KeyGraph();
        int key = Due.keyOver(x, 0, 1L);
        x.run(key);
        anotherVersion(x);
        x.begin(0, key);
        Due.steps("a check", x, 0, 4);
        Due.is("drop", x.drop(key), true);
        Due.is("the pile is empty", x.step(0), 0);
        x.begin(0, key);
        Due.same("worked out now", Due.allSteps(x, 0), "620");
    }

    static void p18_allPilesBecomeEmpty() {
        KeyGraph x = new KeyGraph();
        int key = x.key(0);
        x.run(key);
        for (int worker = 0; worker < 4; worker++) {
            x.begin(worker, x.key(0));
        }
        Due.is("drop", x.drop(key), true);
        for (int worker = 0; worker < 4; worker++) {
            Due.is("step(" + worker + ")", x.step(worker), 0);
        }
        Due.is("cancel()", x.cancel(), 0);
    }

    static void p18_theVersionStays() {
        Busy busy = new Busy();
        int before = busy.x.version();
        busy.x.drop(Busy.SURE);
        Due.is("version", busy.x.version(), before);
    }

    static void p18_theOneThatAskedItStaysSure() {
        KeyGraph x = new KeyGraph();
        int below = x.key(0);
        int key = x.key(0);
        x.asks(key, below);
        x.run(key);
        x.drop(below);
        Due.is("state", x.state(key), 1);
        Due.is("run", x.run(key), 1);
        Due.is("it wasn't found again", x.worked(below), 1);
    }

    static void p18_theOthersStayKept() {
        Busy busy = new Busy();
        busy.x.drop(Busy.SURE);
        Due.is("changed", busy.x.changed(Busy.KEPT) != KeyGraph.NONE, true);
        Due.is("drop", busy.x.drop(Busy.KEPT), true);
    }

    static void p18_itsRowStays() {
        KeyGraph x = new KeyGraph();
        int key = Due.keyOver(x, 0, 1L, 2L);
        x.run(key);
        x.drop(key);
        x.run(key);
        Due.value(x, key, 3L);
        Due.asked(x, key, 0, 1);
    }
}
