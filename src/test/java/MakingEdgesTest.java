/** Promises 1 to 5: each edge that the document names of making keys, rows and rings. */
public final class MakingEdgesTest {
    public static void main(String[] args) {
        Cases.run(MakingEdgesTest.class);
    }

    private static KeyGraph fortyLeaves() {
        KeyGraph x = new KeyGraph();
        for (int i = 0; i < 40; i++) {
            x.leaf(i);
        }
        return x;
    }

    private static KeyGraph fortyKeys() {
        KeyGraph x = new KeyGraph();
        for (int i = 0; i < 40; i++) {
            x.key(0);
        }
        return x;
    }

    /** Keys 0 .. n - 1, each of which asks the one before it. */
    private static KeyGraph chain(int n) {
        KeyGraph x = new KeyGraph();
        x.key(0);
        for (int i = 1; i < n; i++) {
            x.key(0);
            x.asks(i, i - 1);
        }
        return x;
    }

    private static int fullKey(KeyGraph x) {
        return Due.keyOver(x, 0, 1L, 2L, 3L, 4L, 5L, 6L, 7L, 8L);
    }

    static void p01_noKeysToRead() {
        KeyGraph x = new KeyGraph();
        Due.is("state(0)", x.state(0), 0);
        Due.is("worked(0)", x.worked(0), 0);
        Due.is("kept(0)", x.kept(0), 0);
        Due.is("changed(0)", x.changed(0), KeyGraph.NONE);
        Due.is("asked(0, 0)", x.asked(0, 0), KeyGraph.NONE);
        Due.valueThrows(x, 0, Due.ILLEGAL_ARGUMENT);
    }

    static void p01_noKeysToUse() {
        KeyGraph x = new KeyGraph();
        Due.is("asks(0, 0)", x.asks(0, 0), -1);
        Due.is("change(0, 0)", x.change(0, 0L), KeyGraph.NONE);
        Due.is("spoil(0, true)", x.spoil(0, true), KeyGraph.NONE);
        Due.is("begin(0, 0)", x.begin(0, 0), -1);
        Due.is("run(0)", x.run(0), -1);
        Due.is("drop(0)", x.drop(0), false);
    }

    static void p01_noRing() {
        Due.ring(new KeyGraph());
    }

    static void p01_emptyPiles() {
        KeyGraph x = new KeyGraph();
        for (int worker = 0; worker < 4; worker++) {
            Due.is("step(" + worker + ")", x.step(worker), 0);
        }
        Due.is("cancel()", x.cancel(), 0);
    }

    static void p01_objectsShareNothing() {
        Busy busy = new Busy();
        KeyGraph y = new KeyGraph();
        Due.is("version of a new one", y.version(), 0);
        Due.is("ring of a new one", y.ring(0), KeyGraph.NONE);
        Due.is("leaf of a new one", y.leaf(9L), 0);
        Due.is("change of a new one", y.change(0, 8L), 1);
        Due.is("cancel of a new one", y.cancel(), 0);
        busy.unchanged();
    }

    static void p02_theFirstIsZero() {
        Due.is("leaf", new KeyGraph().leaf(7L), 0);
    }

    static void p02_theFortiethIsThirtyNine() {
        KeyGraph x = new KeyGraph();
        for (int i = 0; i < 40; i++) {
            Due.is("leaf", x.leaf(100L + i), i);
        }
        Due.value(x, 39, 139L);
    }

    static void p02_theFortyFirstIsNone() {
        KeyGraph x = fortyLeaves();
        Due.is("leaf", x.leaf(1L), KeyGraph.NONE);
        Due.is("leaf once more", x.leaf(1L), KeyGraph.NONE);
    }

    static void p02_keysWithFunctionsCountAmongTheForty() {
        Due.is("leaf", fortyKeys().leaf(1L), KeyGraph.NONE);
    }

    static void p02_aRefusedLeafIsNowhere() {
        KeyGraph x = fortyLeaves();
        x.leaf(77L);
        Due.is("state(40)", x.state(40), 0);
        Due.valueThrows(x, 40, Due.ILLEGAL_ARGUMENT);
        Due.valueThrows(x, -1, Due.ILLEGAL_ARGUMENT);
        Due.value(x, 39, 39L);
        Due.value(x, 0, 0L);
    }

    static void p02_aRefusedLeafChangesNothing() {
        Busy busy = new Busy();
        for (int i = Busy.KEYS; i < 40; i++) {
            busy.x.leaf(1L);
        }
        Due.is("leaf", busy.x.leaf(1L), KeyGraph.NONE);
        busy.unchanged();
    }

    static void p02_theLeastValue() {
        KeyGraph x = new KeyGraph();
        Due.value(x, x.leaf(Long.MIN_VALUE), Long.MIN_VALUE);
    }

    static void p02_theGreatestValue() {
        KeyGraph x = new KeyGraph();
        Due.value(x, x.leaf(Long.MAX_VALUE), Long.MAX_VALUE);
    }

    static void p02_aValueOfMoreThan32Bits() {
        KeyGraph x = new KeyGraph();
        Due.value(x, x.leaf(1L << 32), 1L << 32);
    }

    static void p02_theVersionStays() {
        Busy busy = new Busy();
        Due.is("leaf", busy.x.leaf(1L), Busy.KEYS);
        busy.unchanged();
    }

    static void p02_itsValueCameInVersionZero() {
        KeyGraph x = new KeyGraph();
        Due.is("changed", x.changed(x.leaf(1L)), 0);
    }

    static void p02_itsValueCameInALaterVersion() {
        KeyGraph x = new KeyGraph();
        int first = x.leaf(1L);
        x.change(first, 2L);
        x.change(first, 3L);
        Due.is("changed", x.changed(x.leaf(1L)), 2);
    }

    static void p03_theLeastFunctionIsZero() {
        KeyGraph x = new KeyGraph();
        Due.is("key(0)", x.key(0), 0);
        Due.is("key(-1)", x.key(-1), KeyGraph.NONE);
    }

    static void p03_theGreatestFunctionIsFive() {
        KeyGraph x = new KeyGraph();
        Due.is("key(5)", x.key(5), 0);
        Due.is("key(6)", x.key(6), KeyGraph.NONE);
    }

    static void p03_functionsFarOff() {
        KeyGraph x = new KeyGraph();
        for (int function : Due.FAR_OFF) {
            Due.is("key(" + function + ")", x.key(function), KeyGraph.NONE);
        }
    }

    static void p03_theFortiethIsThirtyNine() {
        KeyGraph x = new KeyGraph();
        for (int i = 0; i < 40; i++) {
            Due.is("key", x.key(i % 6), i);
        }
        Due.is("run(39)", x.run(39), 1);
    }

    static void p03_theFortyFirstIsNone() {
        KeyGraph x = fortyKeys();
        Due.is("key", x.key(0), KeyGraph.NONE);
        Due.is("key once more", x.key(5), KeyGraph.NONE);
        Due.is("run(40)", x.run(40), -1);
    }

    static void p03_leavesCountAmongTheForty() {
        Due.is("key", fortyLeaves().key(0), KeyGraph.NONE);
    }

    static void p03_fullAndNoSuchFunction() {
        Due.is("key(6)", fortyKeys().key(6), KeyGraph.NONE);
    }

    static void p03_aRefusedKeyTakesNoNumber() {
        KeyGraph x = new KeyGraph();
        x.key(6);
        x.key(-1);
        Due.is("state(0)", x.state(0), 0);
        Due.is("run(0)", x.run(0), -1);
        Due.is("key(0)", x.key(0), 0);
        x.key(6);
        Due.is("leaf", x.leaf(1L), 1);
    }

    static void p03_aRefusedKeyChangesNothing() {
        Busy busy = new Busy();
        Due.is("key(6)", busy.x.key(6), KeyGraph.NONE);
        busy.unchanged();
    }

    static void p03_theVersionStays() {
        Busy busy = new Busy();
        Due.is("key(0)", busy.x.key(0), Busy.KEYS);
        busy.unchanged();
    }

    static void p03_itsRowIsEmpty() {
        KeyGraph x = new KeyGraph();
        int key = x.key(0);
        x.begin(0, key);
        Due.same("steps", Due.allSteps(x, 0), "20");
        Due.asked(x, key);
    }

    static void p03_itIsNeitherSureNorKept() {
        KeyGraph x = new KeyGraph();
        int key = x.key(0);
        Due.is("state", x.state(key), 0);
        Due.is("changed", x.changed(key), KeyGraph.NONE);
        Due.is("drop", x.drop(key), false);
    }

    static void p04_theEighthComes() {
        KeyGraph x = new KeyGraph();
        int key = Due.keyOver(x, 0, 1L, 2L, 3L, 4L, 5L, 6L, 7L);
        Due.is("the eighth", x.asks(key, x.leaf(8L)), 1);
        x.run(key);
        Due.value(x, key, 36L);
        Due.asked(x, key, 0, 1, 2, 3, 4, 5, 6, 7);
    }

    static void p04_theNinthIsRefused() {
        KeyGraph x = new KeyGraph();
        int key = fullKey(x);
        Due.is("the ninth", x.asks(key, x.leaf(9L)), -1);
        x.run(key);
        Due.value(x, key, 36L);
        Due.is("asked(key, 8)", x.asked(key, 8), KeyGraph.NONE);
    }

    static void p04_theNinthChangesNothing() {
        Busy busy = new Busy();
        Due.is("the ninth", busy.x.asks(Busy.FULL, Busy.LEAF), -1);
        busy.unchanged();
    }

    static void p04_aFullOneThatWouldMakeARing() {
        KeyGraph x = new KeyGraph();
        int key = fullKey(x);
        int above = x.key(0);
        x.asks(above, key);
        Due.is("asks itself", x.asks(key, key), -1);
        Due.is("asks the one above", x.asks(key, above), -1);
        Due.ring(x);
    }

    static void p04_aFullOneMayBeAsked() {
        KeyGraph x = new KeyGraph();
        int key = fullKey(x);
        int above = x.key(0);
        Due.is("asks", x.asks(above, key), 1);
        x.run(above);
        Due.value(x, above, 36L);
    }

    static void p04_oneMayComeTwice() {
        KeyGraph x = new KeyGraph();
        int leaf = x.leaf(3L);
        int key = x.key(0);
        Due.is("asks", x.asks(key, leaf), 1);
        Due.is("asks", x.asks(key, leaf), 1);
        x.run(key);
        Due.value(x, key, 6L);
        Due.asked(x, key, 0, 1);
    }

    static void p04_oneMayComeEightTimes() {
        KeyGraph x = new KeyGraph();
        int below = Due.keyOver(x, 0, 3L);
        int key = x.key(0);
        for (int i = 0; i < 8; i++) {
            Due.is("asks", x.asks(key, below), 1);
        }
        Due.is("the ninth", x.asks(key, below), -1);
        x.run(key);
        Due.value(x, key, 24L);
    }

    static void p04_aLeafThatAsks() {
        Busy busy = new Busy();
        Due.is("a leaf asks a key", busy.x.asks(Busy.LEAF, Busy.BENEATH), -1);
        busy.unchanged();
    }

    static void p04_aLeafThatAsksItself() {
        Busy busy = new Busy();
        Due.is("a leaf asks itself", busy.x.asks(Busy.LEAF, Busy.LEAF), -1);
        busy.unchanged();
    }

    static void p04_aLeafThatAsksWhatAsksIt() {
        Busy busy = new Busy();
        Due.is("it would be a ring, too", busy.x.asks(Busy.LEAF, Busy.SURE), -1);
        busy.unchanged();
    }

    static void p04_noSuchAskingKey() {
        Busy busy = new Busy();
        Due.is("the next to be made", busy.x.asks(Busy.KEYS, Busy.LEAF), -1);
        for (int none : Due.FAR_OFF) {
            Due.is("asks(" + none + ", leaf)", busy.x.asks(none, Busy.LEAF), -1);
        }
        busy.unchanged();
    }

    static void p04_noSuchOther() {
        Busy busy = new Busy();
        Due.is("the next to be made", busy.x.asks(Busy.SURE, Busy.KEYS), -1);
        for (int none : Due.FAR_OFF) {
            Due.is("asks(key, " + none + ")", busy.x.asks(Busy.SURE, none), -1);
        }
        busy.unchanged();
    }

    static void p04_neitherIsThere() {
        Busy busy = new Busy();
        for (int none : Due.FAR_OFF) {
            Due.is("asks(" + none + ", same)", busy.x.asks(none, none), -1);
        }
        busy.unchanged();
    }

    static void p04_noSuchAmongForty() {
        KeyGraph x = fortyKeys();
        Due.is("asks(39, 40)", x.asks(39, 40), -1);
        Due.is("asks(40, 39)", x.asks(40, 39), -1);
        Due.is("asks(39, 38)", x.asks(39, 38), 1);
    }

    static void p04_itselfIsARing() {
        KeyGraph x = new KeyGraph();
        Due.is("asks(0, 0)", x.asks(x.key(0), 0), -2);
        x.run(0);
        Due.asked(x, 0);
    }

    static void p04_aRingOfTwo() {
        Due.is("asks(0, 1)", chain(2).asks(0, 1), -2);
    }

    static void p04_aRingOfForty() {
        Due.is("asks(0, 39)", chain(40).asks(0, 39), -2);
    }

    static void p04_aRingByTheLastPlaceOfAFullRow() {
        KeyGraph x = new KeyGraph();
        int key = Due.keyOver(x, 0, 1L, 2L, 3L, 4L, 5L, 6L, 7L);
        int end = x.key(0);
        x.asks(key, end);
        Due.is("end asks", x.asks(end, key), -2);
        Due.ring(x, end, key);
    }

    static void p04_aRingChangesNothingElse() {
        Busy busy = new Busy();
        Due.is("the ring that was told already", busy.x.asks(Busy.SURE, Busy.KEPT), -2);
        busy.unchanged();
    }

    static void p04_aRefusedRingIsNoRow() {
        KeyGraph x = chain(3);
        Due.is("asks(0, 2)", x.asks(0, 2), -2);
        int above = x.key(0);
        Due.is("above asks 2", x.asks(above, 2), 1);
        Due.is("1 asks a leaf", x.asks(1, x.leaf(4L)), 1);
        Due.is("run(2)", x.run(2), 1);
        Due.value(x, 2, 4L);
    }

    static void p04_twoWaysDownAreNoRing() {
        KeyGraph x = new KeyGraph();
        int low = Due.keyOver(x, 0, 2L);
        int left = x.key(0);
        int right = x.key(0);
        int top = x.key(0);
        x.asks(left, low);
        x.asks(right, low);
        Due.is("top asks left", x.asks(top, left), 1);
        Due.is("top asks right", x.asks(top, right), 1);
        Due.is("top asks low", x.asks(top, low), 1);
        Due.is("left asks right", x.asks(left, right), 1);
        Due.is("right asks left", x.asks(right, left), -2);
        x.run(top);
        Due.value(x, top, 8L);
    }

    static void p04_itComesAtTheEnd() {
        KeyGraph x = new KeyGraph();
        int key = Due.keyOver(x, 3, 24L, 4L);
        x.asks(key, x.leaf(3L));
        x.run(key);
        Due.value(x, key, 2L);
        Due.asked(x, key, 0, 1, 2);
    }

    static void p04_allIsCancelled() {
        KeyGraph x = new KeyGraph();
        for (int worker = 0; worker < 4; worker++) {
            x.begin(worker, x.key(0));
        }
        int aside = x.key(0);
        Due.is("asks", x.asks(aside, x.leaf(1L)), 1);
        for (int worker = 0; worker < 4; worker++) {
            Due.is("step(" + worker + ")", x.step(worker), 0);
        }
        Due.is("cancel()", x.cancel(), 0);
        Due.is("nothing was worked out", x.worked(0), 0);
    }

    static void p05_noneBeforeAny() {
        KeyGraph x = chain(3);
        x.asks(0, 77);
        Due.ring(x);
    }

    static void p05_noneBeforeTheFirst() {
        KeyGraph x = chain(2);
        x.asks(0, 1);
        Due.is("ring(-1)", x.ring(-1), KeyGraph.NONE);
        Due.is("ring(least)", x.ring(Integer.MIN_VALUE), KeyGraph.NONE);
    }

    static void p05_noneBeyond() {
        KeyGraph x = chain(2);
        x.asks(0, 1);
        Due.is("ring(1)", x.ring(1), 1);
        Due.is("ring(2)", x.ring(2), KeyGraph.NONE);
        Due.is("ring(40)", x.ring(40), KeyGraph.NONE);
        Due.is("ring(greatest)", x.ring(Integer.MAX_VALUE), KeyGraph.NONE);
    }

    static void p05_ofOne() {
        KeyGraph x = chain(3);
        x.asks(2, 2);
        Due.ring(x, 2);
    }

    static void p05_ofForty() {
        KeyGraph x = chain(40);
        x.asks(0, 39);
        Due.is("ring(0)", x.ring(0), 0);
        Due.is("ring(1)", x.ring(1), 39);
        Due.is("ring(39)", x.ring(39), 1);
        Due.is("ring(40)", x.ring(40), KeyGraph.NONE);
    }

    static void p05_aShorterOneBehindALongerOne() {
        KeyGraph x = chain(5);
        x.asks(0, 4);
        Due.ring(x, 0, 4, 3, 2, 1);
        x.asks(1, 2);
        Due.ring(x, 1, 2);
    }

    static void p05_staysWhenAsksIsMinusOne() {
        KeyGraph x = chain(3);
        x.asks(0, 2);
        x.asks(0, 77);
        x.asks(77, 0);
        Due.ring(x, 0, 2, 1);
    }

    static void p05_staysWhenAsksIsOne() {
        KeyGraph x = chain(3);
        x.asks(0, 2);
        x.asks(2, x.leaf(1L));
        Due.ring(x, 0, 2, 1);
    }

    static void p05_staysInOtherVersions() {
        KeyGraph x = chain(3);
        x.asks(0, 2);
        x.spoil(1, true);
        x.run(2);
        x.drop(2);
        x.cancel();
        Due.ring(x, 0, 2, 1);
    }

    static void p05_isTheOneOfItsTime() {
        KeyGraph x = new KeyGraph();
        int end = x.key(0);
        int first = x.key(0);
        int second = x.key(0);
        int start = x.key(0);
        x.asks(start, first);
        x.asks(start, second);
        x.asks(second, end);
        x.asks(end, start);
        x.asks(first, end);
        Due.ring(x, end, start, second);
    }

    static void p05_theFirstWayBackThoughLonger() {
        KeyGraph x = chain(3);
        int start = x.key(0);
        x.asks(start, x.leaf(1L));
        x.asks(start, 2);
        x.asks(start, 0);
        x.asks(0, start);
        Due.ring(x, 0, start, 2, 1);
    }

    static void p05_theFirstThatComesBackNotTheFirst() {
        KeyGraph x = chain(2);
        int aside = Due.keyOver(x, 0, 1L);
        int start = x.key(0);
        x.asks(start, aside);
        x.asks(start, 1);
        x.asks(0, start);
        Due.ring(x, 0, start, 1);
    }

    static void p05_oneThatComesTwiceInARow() {
        KeyGraph x = chain(2);
        x.asks(1, 0);
        x.asks(0, 1);
        Due.ring(x, 0, 1);
    }
}
