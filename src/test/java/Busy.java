/**
 * An object in the midst of its work: one key is sure, one is kept but not sure, two workers have
 * keys in their piles, and a ring was told. It shows whether a refused call has changed anything.
 */
final class Busy {
    static final int LEAF = 0;
    static final int SURE = 1;
    static final int KEPT = 2;
    static final int BEGUN = 3;
    static final int BENEATH = 4;
    static final int ALSO_BEGUN = 5;
    static final int FULL = 6;
    static final int KEYS = 7;

    static final int WORKER = 0;
    static final int OTHER_WORKER = 3;
    static final int IDLE_WORKER = 1;

    final KeyGraph x = new KeyGraph();
    private String before;

    Busy() {
        x.leaf(5L);
        for (int key = SURE; key < KEYS; key++) {
            x.key(0);
        }
        x.asks(SURE, LEAF);
        x.asks(KEPT, SURE);
        x.asks(BEGUN, LEAF);
        x.asks(BEGUN, BENEATH);
        for (int i = 0; i < 8; i++) {
            x.asks(FULL, SURE);
        }
        x.run(KEPT);
        x.change(LEAF, 6L);
        x.run(SURE);
        x.asks(SURE, KEPT);
        x.begin(WORKER, BEGUN);
        x.step(WORKER);
        x.begin(OTHER_WORKER, ALSO_BEGUN);
        before = Due.told(x, KEYS);
    }

    /** For tests that go on with an object before the call that is refused. */
    void remember() {
        before = Due.told(x, KEYS);
    }

    void unchanged() {
        unchangedButPiles();
        Due.held(x, IDLE_WORKER, BEGUN);
        Due.held(x, IDLE_WORKER, ALSO_BEGUN);
        Due.is("the worker goes on where it was", x.step(WORKER), 1);
        Due.held(x, IDLE_WORKER, BENEATH);
        Due.is("keys in piles", x.cancel(), 3);
    }

    void unchangedButPilesAreEmpty() {
        unchangedButPiles();
        Due.is("keys in piles", x.cancel(), 0);
    }

    private void unchangedButPiles() {
        Due.same("what is told", Due.told(x, KEYS), before);
    }
}
