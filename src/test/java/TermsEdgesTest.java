/**
 * "Terms": each edge that it names of what is sure, changed, asked and kept (the third paragraph),
 * of finding and its check (the fourth), and of piles and steps (the fifth). Those of keys, rows and
 * versions (the first) stand with the promises that make them; those of functions (the second) stand
 * in FunctionEdgesTest.
 */
public final class TermsEdgesTest {
    public static void main(String[] args) {
        Cases.run(TermsEdgesTest.class);
    }

    /** A new version in which no key that was there is altered. */
    private static void anotherVersion(KeyGraph x) {
        x.change(x.leaf(0L), 1L);
    }

    private static void steps(KeyGraph x, int key, String want) {
        Due.is("begin", x.begin(0, key), 1);
        Due.same("steps", Due.allSteps(x, 0), want);
    }

    static void t3_sureByThisVersionAlone() {
        KeyGraph x = new KeyGraph();
        int key = Due.keyOver(x, 0, 1L);
        x.run(key);
        Due.is("state", x.state(key), 1);
        x.change(key + 1, 2L);
        Due.is("state", x.state(key), 0);
        x.change(key + 1, 1L);
        Due.is("the value is as it was, but it isn't sure", x.state(key), 0);
    }

    static void t3_leavesAreSureInEveryVersion() {
        KeyGraph x = new KeyGraph();
        int leaf = x.leaf(3L);
        anotherVersion(x);
        anotherVersion(x);
        Due.is("state", x.state(leaf), 1);
        Due.value(x, leaf, 3L);
    }

    static void t3_keptThroughVersions() {
        KeyGraph x = new KeyGraph();
        int key = Due.keyOver(x, 0, 1L, 2L);
        x.run(key);
        anotherVersion(x);
        x.spoil(key, true);
        x.asks(key, x.leaf(5L));
        Due.is("changed", x.changed(key), 2);
        Due.asked(x, key, 0, 1);
        Due.is("drop", x.drop(key), true);
    }

    static void t4_changedInThatVersionIsNotBehindIt() {
        KeyGraph x = new KeyGraph();
        int key = Due.keyOver(x, 0, 1L);
        x.change(key + 1, 2L);
        x.run(key);
        Due.is("the leaf changed in the version in which it was sure", x.changed(key + 1), x.version());
        anotherVersion(x);
        steps(x, key, "420");
    }

    static void t4_changedOneVersionBehindEndsTheCheck() {
        KeyGraph x = new KeyGraph();
        int key = Due.keyOver(x, 0, 1L);
        x.run(key);
        x.change(key + 1, 2L);
        steps(x, key, "5620");
    }

    static void t4_sureLastIsMovedByACheck() {
        KeyGraph x = new KeyGraph();
        int key = Due.keyOver(x, 0, 1L);
        x.run(key);
        anotherVersion(x);
        Due.is("checked", x.run(key), 1);
        x.change(key + 1, 2L);
        Due.is("worked out", x.run(key), 1);
        anotherVersion(x);
        steps(x, key, "420");
        Due.is("kept", x.kept(key), 2);
        Due.is("worked", x.worked(key), 2);
    }

    static void t4_sureLastIsNotTheVersionInWhichItChanged() {
        KeyGraph x = new KeyGraph();
        int key = Due.keyOver(x, 4, 1L);
        x.run(key);
        x.change(key + 1, 3L);
        x.run(key);
        Due.is("it changed before the leaf did", x.changed(key) < x.changed(key + 1), true);
        anotherVersion(x);
        steps(x, key, "420");
    }

    static void t4_anOldChangeOfAKeyFoundLate() {
        KeyGraph x = new KeyGraph();
        int below = Due.keyOver(x, 4, 1L);
        int key = x.key(0);
        x.asks(key, below);
        x.run(key);
        x.change(below + 1, 2L);
        x.run(below);
        x.change(below + 1, 1L);
        x.run(below);
        Due.is("changed twice to what it was", x.changed(below), 4);
        steps(x, key, "5620");
        Due.is("to the same", x.changed(key), 2);
    }

    static void t4_ofSeveralTheFirstThatChangedEndsIt() {
        KeyGraph x = new KeyGraph();
        int key = Due.keyOver(x, 0, 1L, 2L, 3L);
        x.run(key);
        x.change(key + 2, 5L);
        x.change(key + 3, 6L);
        steps(x, key, "4566620");
    }

    static void t4_theLastThatChangedEndsIt() {
        KeyGraph x = new KeyGraph();
        int key = Due.keyOver(x, 0, 1L, 2L, 3L, 4L, 5L, 6L, 7L, 8L);
        x.run(key);
        x.change(key + 8, 9L);
        steps(x, key, "444444456666666620");
    }

    static void t4_thoseBehindTheFirstThatChangedAreNotFound() {
        KeyGraph x = new KeyGraph();
        int first = x.leaf(0L);
        int second = x.key(0);
        int key = x.key(1);
        x.asks(key, first);
        x.asks(key, second);
        x.run(key);
        x.change(first, 3L);
        steps(x, key, "5620");
        Due.is("state", x.state(second), 0);
    }

    static void t4_whatWasNotAskedIsNotLookedAt() {
        KeyGraph x = new KeyGraph();
        int key = Due.keyOver(x, 1, 4L, 5L);
        x.run(key);
        x.change(key + 2, 9L);
        steps(x, key, "420");
    }

    static void t4_placesThatWereAskedNotTheFirstOnes() {
        KeyGraph x = new KeyGraph();
        int key = Due.keyOver(x, 2, 1L, 10L, 20L);
        x.run(key);
        x.change(key + 2, 11L);
        steps(x, key, "4420");
        x.change(key + 3, 21L);
        steps(x, key, "456620");
        Due.value(x, key, 21L);
    }

    static void t4_nothingAskedNothingToGoThrough() {
        KeyGraph x = new KeyGraph();
        int key = x.key(0);
        x.run(key);
        anotherVersion(x);
        steps(x, key, "20");
        Due.is("kept", x.kept(key), 1);
    }

    static void t4_oneThatWasAskedTwiceIsPassedTwice() {
        KeyGraph x = new KeyGraph();
        int below = x.key(0);
        int key = x.key(0);
        x.asks(key, below);
        x.asks(key, below);
        x.run(key);
        anotherVersion(x);
        steps(x, key, "124420");
    }

    static void t4_aFailureThatIsAsItWasIsPassed() {
        KeyGraph x = new KeyGraph();
        int bad = x.key(5);
        int key = x.key(0);
        x.asks(key, bad);
        x.run(key);
        anotherVersion(x);
        steps(x, key, "12420");
        Due.is("state", x.state(key), 3);
    }

    static void t4_aFailureThatIsNewEndsIt() {
        KeyGraph x = new KeyGraph();
        int below = x.key(0);
        int key = x.key(0);
        x.asks(key, below);
        x.run(key);
        x.spoil(below, true);
        steps(x, key, "12520");
        Due.is("state", x.state(key), 3);
    }

    static void t4_spoiltBehindThatVersionIsNotChecked() {
        KeyGraph x = new KeyGraph();
        int key = Due.keyOver(x, 0, 1L);
        x.run(key);
        x.spoil(key, true);
        steps(x, key, "20");
        Due.is("worked", x.worked(key), 2);
        Due.is("kept", x.kept(key), 0);
    }

    static void t4_spoiltInThatVersionIsChecked() {
        KeyGraph x = new KeyGraph();
        int key = Due.keyOver(x, 0, 1L);
        x.spoil(key, true);
        x.run(key);
        x.change(key + 1, 2L);
        steps(x, key, "20");
        Due.is("worked", x.worked(key), 1);
        Due.is("kept", x.kept(key), 1);
        Due.is("state", x.state(key), 2);
    }

    static void t4_notSpoiltAnyMoreBehindThatVersionIsNotChecked() {
        KeyGraph x = new KeyGraph();
        int key = Due.keyOver(x, 0, 1L);
        x.spoil(key, true);
        x.run(key);
        x.spoil(key, false);
        steps(x, key, "620");
    }

    static void t4_notSpoiltAnyMoreInThatVersionIsChecked() {
        KeyGraph x = new KeyGraph();
        int key = Due.keyOver(x, 0, 1L);
        x.spoil(key, true);
        x.spoil(key, false);
        x.run(key);
        anotherVersion(x);
        steps(x, key, "420");
    }

    static void t4_spoiltAndNotAnyMoreBehindThatVersionIsNotChecked() {
        KeyGraph x = new KeyGraph();
        int key = Due.keyOver(x, 0, 1L);
        x.run(key);
        x.spoil(key, true);
        x.spoil(key, false);
        steps(x, key, "620");
    }

    static void t4_aRowGrownBehindThatVersionIsNotChecked() {
        KeyGraph x = new KeyGraph();
        int key = Due.keyOver(x, 1, 3L);
        x.run(key);
        x.asks(key, x.leaf(4L));
        steps(x, key, "620");
        Due.is("worked", x.worked(key), 2);
    }

    static void t4_aRowGrownInThatVersionIsChecked() {
        KeyGraph x = new KeyGraph();
        int key = Due.keyOver(x, 1, 3L);
        x.run(key);
        anotherVersion(x);
        steps(x, key, "420");
    }

    static void t4_aRefusedAsksIsNoGrownRow() {
        KeyGraph x = new KeyGraph();
        int key = Due.keyOver(x, 0, 1L);
        x.run(key);
        anotherVersion(x);
        x.asks(key, key);
        x.asks(key, 39);
        steps(x, key, "420");
    }

    static void t4_spoilAsItIsIsNoSpoiling() {
        KeyGraph x = new KeyGraph();
        int key = Due.keyOver(x, 0, 1L);
        x.run(key);
        anotherVersion(x);
        x.spoil(key, false);
        steps(x, key, "420");
    }

    static void t4_anAskedKeyThatWasAlteredButIsTheSame() {
        KeyGraph x = new KeyGraph();
        int below = Due.keyOver(x, 0, 1L);
        int key = x.key(0);
        x.asks(key, below);
        x.run(key);
        x.asks(below, x.leaf(0L));
        steps(x, key, "1662420");
        Due.is("kept", x.kept(key), 1);
    }

    static void t4_anAskedKeyThatWasDroppedChanged() {
        KeyGraph x = new KeyGraph();
        int below = Due.keyOver(x, 0, 1L);
        int key = x.key(0);
        x.asks(key, below);
        x.run(key);
        anotherVersion(x);
        x.drop(below);
        steps(x, key, "1625620");
        Due.is("to the same", x.changed(key), 2);
    }

    static void t4_anAskedKeyThatWasDroppedAndFoundInThatVersion() {
        KeyGraph x = new KeyGraph();
        int below = Due.keyOver(x, 0, 1L);
        int key = x.key(0);
        x.asks(key, below);
        x.run(key);
        x.drop(below);
        x.run(below);
        anotherVersion(x);
        steps(x, key, "142420");
    }

    static void t4_notKeptIsNotChecked() {
        KeyGraph x = new KeyGraph();
        int key = Due.keyOver(x, 0, 1L);
        x.run(key);
        x.drop(key);
        steps(x, key, "620");
    }

    static void t4_workThatWasCancelledIsNotWorkedOut() {
        KeyGraph x = new KeyGraph();
        int key = Due.keyOver(x, 0, 1L);
        x.run(key);
        x.asks(key, x.leaf(2L));
        x.begin(0, key);
        Due.steps("work", x, 0, 6, 6);
        x.cancel();
        steps(x, key, "6620");
        Due.value(x, key, 3L);
    }

    static void t5_anEmptyPileIsZero() {
        KeyGraph x = new KeyGraph();
        Due.is("step", x.step(0), 0);
    }

    static void t5_comesOnTop() {
        KeyGraph x = new KeyGraph();
        int below = x.key(0);
        int key = x.key(0);
        x.asks(key, below);
        x.begin(0, key);
        Due.is("step", x.step(0), 1);
        Due.held(x, 1, below);
        Due.held(x, 1, key);
        Due.is("nothing is found yet", x.worked(below), 0);
        Due.is("keys in piles", x.cancel(), 2);
    }

    static void t5_aLeafNeverComesOnTop() {
        KeyGraph x = new KeyGraph();
        int key = Due.keyOver(x, 0, 1L);
        x.begin(0, key);
        Due.is("step", x.step(0), 6);
        Due.is("keys in piles", x.cancel(), 1);
    }

    static void t5_waitsForTheTopOfAnotherPile() {
        KeyGraph x = new KeyGraph();
        int shared = x.key(0);
        int key = x.key(0);
        x.asks(key, shared);
        x.begin(0, shared);
        x.begin(1, key);
        Due.steps("waits", x, 1, 3, 3, 3);
        Due.is("keys in piles", x.cancel(), 2);
    }

    static void t5_waitsForTheBottomOfAnotherPile() {
        KeyGraph x = new KeyGraph();
        int low = x.key(0);
        int shared = x.key(0);
        int key = x.key(0);
        x.asks(shared, low);
        x.asks(key, shared);
        x.begin(3, shared);
        x.step(3);
        x.begin(0, key);
        Due.steps("waits", x, 0, 3);
        Due.steps("the other goes on", x, 3, 2);
        Due.steps("waits", x, 0, 3);
        Due.steps("the other goes on", x, 3, 6, 2, 0);
        Due.same("steps", Due.allSteps(x, 0), "620");
    }

    static void t5_waitsInACheck() {
        KeyGraph x = new KeyGraph();
        int shared = x.key(0);
        int key = x.key(0);
        x.asks(key, shared);
        x.run(key);
        anotherVersion(x);
        x.begin(0, shared);
        x.begin(1, key);
        Due.steps("waits", x, 1, 3);
        Due.steps("the other goes on", x, 0, 2);
        Due.same("steps", Due.allSteps(x, 1), "420");
    }

    static void t5_waitingLosesNothingOfTheWork() {
        KeyGraph x = new KeyGraph();
        int shared = Due.keyOver(x, 0, 1L);
        int key = Due.keyOver(x, 0, 10L);
        x.asks(key, shared);
        x.begin(0, shared);
        x.begin(1, key);
        Due.steps("waits", x, 1, 6, 3, 3);
        Due.steps("the other goes on", x, 0, 6, 2);
        Due.same("steps", Due.allSteps(x, 1), "620");
        Due.value(x, key, 11L);
        Due.asked(x, key, 0, 1);
    }

    static void t5_waitingLosesNothingOfTheCheck() {
        KeyGraph x = new KeyGraph();
        int shared = Due.keyOver(x, 0, 1L);
        int key = Due.keyOver(x, 0, 10L);
        x.asks(key, shared);
        x.run(key);
        anotherVersion(x);
        x.begin(0, shared);
        x.begin(1, key);
        Due.steps("waits", x, 1, 4, 3, 3);
        Due.steps("the other goes on", x, 0, 4, 2);
        Due.same("steps", Due.allSteps(x, 1), "420");
        Due.is("kept", x.kept(key), 1);
    }

    static void t5_waitsNoMoreWhenAllIsCancelled() {
        KeyGraph x = new KeyGraph();
        int shared = x.key(0);
        int key = x.key(0);
        x.asks(key, shared);
        x.begin(0, shared);
        x.begin(1, key);
        Due.steps("waits", x, 1, 3);
        x.cancel();
        x.begin(1, key);
        Due.same("steps", Due.allSteps(x, 1), "12620");
    }

    static void t5_threeMayWaitForOne() {
        KeyGraph x = new KeyGraph();
        int shared = x.key(0);
        x.begin(3, shared);
        for (int worker = 0; worker < 3; worker++) {
            x.asks(x.key(0), shared);
        }
        x.begin(3, shared);
        for (int worker = 0; worker < 3; worker++) {
            x.begin(worker, shared + 1 + worker);
            Due.steps("waits", x, worker, 3);
        }
        Due.steps("found", x, 3, 2);
        for (int worker = 0; worker < 3; worker++) {
            Due.same("steps", Due.allSteps(x, worker), "620");
        }
        Due.is("worked", x.worked(shared), 1);
    }

    static void t5_whatAnotherFoundIsTakenAtOnce() {
        KeyGraph x = new KeyGraph();
        int shared = x.key(0);
        int key = x.key(0);
        x.asks(key, shared);
        x.begin(1, key);
        x.run(shared);
        Due.same("steps", Due.allSteps(x, 1), "620");
    }

    static void t5_theCheckEndsAndNothingElseIsDone() {
        KeyGraph x = new KeyGraph();
        int key = Due.keyOver(x, 0, 1L);
        x.run(key);
        x.change(key + 1, 2L);
        String before = Due.told(x, 2);
        x.begin(0, key);
        Due.is("step", x.step(0), 5);
        Due.same("what is told", Due.told(x, 2), before);
        Due.held(x, 1, key);
    }

    static void t5_aPassedKeyChangesNothing() {
        KeyGraph x = new KeyGraph();
        int key = Due.keyOver(x, 0, 1L);
        x.run(key);
        anotherVersion(x);
        String before = Due.told(x, 2);
        x.begin(0, key);
        Due.is("step", x.step(0), 4);
        Due.same("what is told", Due.told(x, 2), before);
        Due.held(x, 1, key);
    }

    static void t5_aTakenKeyThatFailed() {
        KeyGraph x = new KeyGraph();
        int bad = x.key(5);
        int key = Due.keyOver(x, 0, 1L);
        x.asks(key, bad);
        x.run(bad);
        x.begin(0, key);
        Due.steps("the leaf", x, 0, 6);
        Due.is("sure at once", x.step(0), 2);
        Due.is("state", x.state(key), 3);
        Due.is("the pile is empty", x.step(0), 0);
    }

    static void t5_aFailureByZeroIsToldByAStepOfItsOwn() {
        KeyGraph x = new KeyGraph();
        int key = Due.keyOver(x, 3, 1L, 0L);
        x.begin(0, key);
        Due.steps("both are taken", x, 0, 6, 6);
        Due.is("not yet", x.state(key), 0);
        Due.held(x, 1, key);
        Due.is("told", x.step(0), 2);
        Due.is("state", x.state(key), 2);
    }

    static void t5_aFailureOfASpoiltKeyIsToldByAStepOfItsOwn() {
        KeyGraph x = new KeyGraph();
        int below = x.key(0);
        int key = x.key(0);
        x.asks(below, x.leaf(1L));
        x.asks(key, below);
        x.spoil(below, true);
        steps(x, key, "1220");
        Due.is("state", x.state(below), 2);
        Due.is("state", x.state(key), 3);
    }

    static void t5_noneComesNextAfterTheFirstThatIsNotZero() {
        KeyGraph x = new KeyGraph();
        steps(x, Due.keyOver(x, 1, 0L, 5L, 6L), "6620");
    }

    static void t5_noneComesNextOfAnEmptyRow() {
        for (int function = 0; function < 6; function++) {
            KeyGraph x = new KeyGraph();
            steps(x, x.key(function), "20");
        }
    }

    static void t5_eachKeyIsInOnePileAtMost() {
        KeyGraph x = new KeyGraph();
        int shared = x.key(0);
        int left = x.key(0);
        int right = x.key(0);
        x.asks(left, shared);
        x.asks(right, shared);
        x.begin(0, left);
        x.begin(1, right);
        Due.steps("it comes on top", x, 1, 1);
        Due.steps("waits", x, 0, 3);
        Due.is("begin", x.begin(2, shared), -2);
        Due.is("run", x.run(shared), -2);
        Due.is("keys in piles", x.cancel(), 3);
    }

    static void t5_aKeyFoundByOneGoesFromItsPileAlone() {
        KeyGraph x = new KeyGraph();
        int below = x.key(0);
        int key = x.key(0);
        x.asks(key, below);
        x.begin(0, key);
        x.step(0);
        Due.is("step", x.step(0), 2);
        Due.held(x, 1, key);
        Due.is("keys in piles", x.cancel(), 1);
    }
}
