/** Promises 8, 9 and 10: each edge that the document names of begin, step and cancel. */
public final class WorkersEdgesTest {
    public static void main(String[] args) {
        Cases.run(WorkersEdgesTest.class);
    }

    /** Keys 0, 1, 2 in the pile of worker 0, the last on top. */
    private static KeyGraph threeInAPile() {
        KeyGraph x = new KeyGraph();
        x.key(0);
        x.key(0);
        x.key(0);
        x.asks(0, 1);
        x.asks(1, 2);
        x.begin(0, 0);
        Due.steps("down", x, 0, 1, 1);
        return x;
    }

    static void p08_theLeastWorkerIsZero() {
        KeyGraph x = new KeyGraph();
        int key = x.key(0);
        Due.is("begin(-1)", x.begin(-1, key), -1);
        Due.is("begin(0)", x.begin(0, key), 1);
    }

    static void p08_theGreatestWorkerIsThree() {
        KeyGraph x = new KeyGraph();
        int key = x.key(0);
        Due.is("begin(4)", x.begin(4, key), -1);
        Due.is("begin(3)", x.begin(3, key), 1);
    }

    static void p08_workersFarOff() {
        Busy busy = new Busy();
        for (int none : Due.FAR_OFF) {
            Due.is("begin(" + none + ")", busy.x.begin(none, Busy.FULL), -1);
        }
        busy.unchanged();
    }

    static void p08_noSuchKey() {
        Busy busy = new Busy();
        Due.is("the next to be made", busy.x.begin(Busy.IDLE_WORKER, Busy.KEYS), -1);
        for (int none : Due.FAR_OFF) {
            Due.is("begin(" + none + ")", busy.x.begin(Busy.IDLE_WORKER, none), -1);
        }
        busy.unchanged();
    }

    static void p08_theFortiethKey() {
        KeyGraph x = new KeyGraph();
        for (int i = 0; i < 40; i++) {
            x.key(0);
        }
        Due.is("begin(0, 40)", x.begin(0, 40), -1);
        Due.is("begin(0, 39)", x.begin(0, 39), 1);
        Due.is("step(0)", x.step(0), 2);
    }

    static void p08_noSuchWorkerAndSure() {
        Busy busy = new Busy();
        Due.is("a sure key", busy.x.begin(4, Busy.SURE), -1);
        Due.is("a leaf", busy.x.begin(-1, Busy.LEAF), -1);
        busy.unchanged();
    }

    static void p08_noSuchWorkerAndAnotherHasIt() {
        Busy busy = new Busy();
        Due.is("begin", busy.x.begin(4, Busy.BEGUN), -1);
        busy.unchanged();
    }

    static void p08_thePileIsNotEmpty() {
        Busy busy = new Busy();
        Due.is("begin", busy.x.begin(Busy.WORKER, Busy.FULL), -1);
        busy.unchanged();
    }

    static void p08_thePileIsNotEmptyAndItIsSure() {
        Busy busy = new Busy();
        Due.is("a sure key", busy.x.begin(Busy.WORKER, Busy.SURE), -1);
        Due.is("a leaf", busy.x.begin(Busy.WORKER, Busy.LEAF), -1);
        busy.unchanged();
    }

    static void p08_thePileHasItAlready() {
        Busy busy = new Busy();
        Due.is("begin", busy.x.begin(Busy.WORKER, Busy.BEGUN), -1);
        busy.unchanged();
    }

    static void p08_thePileIsNotEmptyAndAnotherHasIt() {
        Busy busy = new Busy();
        Due.is("begin", busy.x.begin(Busy.WORKER, Busy.ALSO_BEGUN), -1);
        busy.unchanged();
    }

    static void p08_aLeafIsSure() {
        Busy busy = new Busy();
        Due.is("begin", busy.x.begin(Busy.IDLE_WORKER, Busy.LEAF), 0);
        Due.is("nothing is done", busy.x.step(Busy.IDLE_WORKER), 0);
        busy.unchanged();
    }

    static void p08_aSureKey() {
        Busy busy = new Busy();
        Due.is("begin", busy.x.begin(Busy.IDLE_WORKER, Busy.SURE), 0);
        Due.is("nothing is done", busy.x.step(Busy.IDLE_WORKER), 0);
        busy.unchanged();
    }

    static void p08_aSureKeyThatFailed() {
        KeyGraph x = new KeyGraph();
        int bad = x.key(5);
        int above = x.key(0);
        x.asks(above, bad);
        x.run(above);
        Due.is("failed itself", x.begin(0, bad), 0);
        Due.is("failed by another", x.begin(0, above), 0);
        Due.is("nothing is done", x.cancel(), 0);
    }

    static void p08_keptButNotSure() {
        Busy busy = new Busy();
        Due.is("begin", busy.x.begin(Busy.IDLE_WORKER, Busy.KEPT), 1);
        Due.is("cancel()", busy.x.cancel(), 3);
    }

    static void p08_anotherHasItAtTheBottom() {
        KeyGraph x = threeInAPile();
        Due.is("begin", x.begin(1, 0), -2);
        Due.is("nothing is done", x.step(1), 0);
    }

    static void p08_anotherHasItInTheMiddle() {
        KeyGraph x = threeInAPile();
        Due.is("begin", x.begin(1, 1), -2);
        Due.is("nothing is done", x.step(1), 0);
    }

    static void p08_anotherHasItOnTop() {
        KeyGraph x = threeInAPile();
        Due.is("begin", x.begin(1, 2), -2);
        Due.is("nothing is done", x.step(1), 0);
    }

    static void p08_anotherHasItNoMore() {
        KeyGraph x = threeInAPile();
        Due.is("it is found", x.step(0), 2);
        Due.is("it is sure", x.begin(1, 2), 0);
        x.cancel();
        Due.is("it is free", x.begin(1, 1), 1);
    }

    static void p08_thePileIsEmptyAgain() {
        KeyGraph x = new KeyGraph();
        int first = x.key(0);
        int second = x.key(0);
        x.begin(2, first);
        Due.is("begin too early", x.begin(2, second), -1);
        x.step(2);
        Due.is("begin", x.begin(2, second), 1);
    }

    static void p08_fourWorkersAtOnce() {
        KeyGraph x = new KeyGraph();
        for (int worker = 0; worker < 4; worker++) {
            x.key(0);
            Due.is("begin", x.begin(worker, worker), 1);
        }
        for (int worker = 3; worker >= 0; worker--) {
            Due.steps("worker " + worker, x, worker, 2, 0);
            Due.is("state", x.state(worker), 1);
        }
    }

    static void p09_theLeastWorkerIsZero() {
        KeyGraph x = new KeyGraph();
        Due.is("step(-1)", x.step(-1), -1);
        Due.is("step(0)", x.step(0), 0);
    }

    static void p09_theGreatestWorkerIsThree() {
        KeyGraph x = new KeyGraph();
        Due.is("step(3)", x.step(3), 0);
        Due.is("step(4)", x.step(4), -1);
    }

    static void p09_workersFarOff() {
        Busy busy = new Busy();
        for (int none : Due.FAR_OFF) {
            Due.is("step(" + none + ")", busy.x.step(none), -1);
        }
        busy.unchanged();
    }

    static void p09_theRunnersOwnWorkerIsNone() {
        KeyGraph x = threeInAPile();
        Due.is("run", x.run(0), -2);
        Due.is("step(4)", x.step(4), -1);
        Due.is("begin(4)", x.begin(4, x.key(0)), -1);
    }

    static void p09_anEmptyPile() {
        Busy busy = new Busy();
        Due.is("step", busy.x.step(Busy.IDLE_WORKER), 0);
        Due.is("step", busy.x.step(Busy.IDLE_WORKER), 0);
        busy.unchanged();
    }

    static void p09_anEmptyPileBehindTheLastKey() {
        KeyGraph x = threeInAPile();
        Due.same("steps", Due.allSteps(x, 0), "262620");
        Due.is("step", x.step(0), 0);
        Due.is("worked", x.worked(0), 1);
    }

    static void p10_nothingToCancel() {
        KeyGraph x = new KeyGraph();
        x.key(0);
        Due.is("cancel()", x.cancel(), 0);
    }

    static void p10_onePileOfMany() {
        KeyGraph x = threeInAPile();
        Due.is("cancel()", x.cancel(), 3);
        Due.is("cancel() again", x.cancel(), 0);
    }

    static void p10_thirtyNineOfForty() {
        KeyGraph x = new KeyGraph();
        x.leaf(1L);
        for (int i = 1; i < 40; i++) {
            x.key(0);
            x.asks(i, i - 1);
        }
        x.begin(0, 39);
        for (int i = 0; i < 38; i++) {
            Due.is("on top", x.step(0), 1);
        }
        Due.is("a leaf doesn't come on top", x.step(0), 6);
        Due.is("cancel()", x.cancel(), 39);
    }

    static void p10_fortyOfForty() {
        KeyGraph x = new KeyGraph();
        x.key(0);
        for (int i = 1; i < 40; i++) {
            x.key(0);
            x.asks(i, i - 1);
        }
        x.begin(3, 39);
        for (int i = 0; i < 39; i++) {
            Due.is("on top", x.step(3), 1);
        }
        Due.is("cancel()", x.cancel(), 40);
        Due.is("run(39)", x.run(39), 1);
    }

    static void p10_allFourPiles() {
        KeyGraph x = new KeyGraph();
        for (int worker = 0; worker < 4; worker++) {
            int below = x.key(0);
            int above = x.key(0);
            x.asks(above, below);
        }
        for (int worker = 0; worker < 4; worker++) {
            x.begin(worker, 2 * worker + 1);
            Due.is("on top", x.step(worker), 1);
        }
        Due.is("cancel()", x.cancel(), 8);
        for (int worker = 0; worker < 4; worker++) {
            Due.is("step", x.step(worker), 0);
        }
    }

    static void p10_oneThatWaits() {
        KeyGraph x = threeInAPile();
        int above = x.key(0);
        x.cancel();
        x.asks(above, 2);
        x.begin(0, 2);
        x.begin(1, above);
        Due.is("waits", x.step(1), 3);
        Due.is("cancel()", x.cancel(), 2);
    }

    static void p10_theVersionStays() {
        Busy busy = new Busy();
        Due.is("cancel()", busy.x.cancel(), 2);
        busy.unchangedButPilesAreEmpty();
    }

    static void p10_whatWasFoundStaysSure() {
        KeyGraph x = threeInAPile();
        Due.is("found", x.step(0), 2);
        Due.is("cancel()", x.cancel(), 2);
        Due.is("state(2)", x.state(2), 1);
        Due.is("state(1)", x.state(1), 0);
    }

    static void p10_workBeginsAnew() {
        KeyGraph x = new KeyGraph();
        int key = Due.keyOver(x, 0, 1L, 2L);
        x.begin(0, key);
        Due.steps("work", x, 0, 6);
        x.cancel();
        x.begin(0, key);
        Due.same("steps", Due.allSteps(x, 0), "6620");
        Due.value(x, key, 3L);
        Due.asked(x, key, 0, 1);
    }

    static void p10_aCheckBeginsAnew() {
        KeyGraph x = new KeyGraph();
        int key = Due.keyOver(x, 0, 1L, 2L);
        x.run(key);
        x.change(x.leaf(0L), 1L);
        x.begin(0, key);
        Due.steps("a check", x, 0, 4);
        x.cancel();
        x.begin(0, key);
        Due.same("steps", Due.allSteps(x, 0), "4420");
    }

    static void p10_aCheckThatHadEndedBeginsAnew() {
        KeyGraph x = new KeyGraph();
        int key = Due.keyOver(x, 0, 1L, 2L);
        x.run(key);
        x.change(key + 1, 5L);
        x.begin(0, key);
        Due.steps("a check", x, 0, 5);
        x.cancel();
        x.begin(0, key);
        Due.same("steps", Due.allSteps(x, 0), "56620");
        Due.value(x, key, 7L);
    }
}
