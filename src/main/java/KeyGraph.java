/**
 * A graph of keys that is worked out again as little as may be. The words of the comments (sure,
 * kept, check, pile ..) are those of the document's terms.
 */
public final class KeyGraph {
    public static final int NONE = -1;

    private static final int MOST_KEYS = 40;
    private static final int MOST_IN_ROW = 8;
    private static final int WORKERS = 4;
    /** The pile that run uses lies behind those of the workers; it is empty between two calls. */
    private static final int RUNNER = WORKERS;
    /** Far above what one run can need: it ends after some twenty steps for each key. */
    private static final int MOST_STEPS = 1000000;

    private static final int DONE = 1;
    private static final int NO_SUCH = -1;
    private static final int REFUSED = -2;
    private static final int ALREADY_SURE = 0;

    private static final int VALUE = 1;
    private static final int FAILED_ITSELF = 2;
    private static final int FAILED_BY_ANOTHER = 3;
    private static final int NOT_SURE = 0;

    private static final int IDLE = 0;
    private static final int ON_TOP = 1;
    private static final int FOUND = 2;
    private static final int WAITS = 3;
    private static final int PASSED = 4;
    private static final int CHECK_ENDED = 5;
    private static final int TAKEN = 6;

    private final Key[] keys;
    private int keyCount;
    private int version;
    private final Pile[] piles;
    private final int[] ringKeys;
    private int ringSize;

    public KeyGraph() {
        keys = new Key[MOST_KEYS];
        piles = new Pile[WORKERS + 1];
        for (int i = 0; i < piles.length; i++) {
            piles[i] = new Pile();
        }
        ringKeys = new int[MOST_KEYS];
    }

    public int leaf(long v) {
        if (keyCount >= MOST_KEYS) {
            return NONE;
        }
        Key made = new Key(keyCount, Work.LEAF);
        made.has = VALUE;
        made.value = v;
        made.changedIn = version;
        return addKey(made);
    }

    public int key(int function) {
        if (keyCount >= MOST_KEYS || function < 0 || function >= Work.FUNCTIONS) {
            return NONE;
        }
        return addKey(new Key(keyCount, function));
    }

    public int asks(int key, int other) {
        Key asking = keyWithFunction(key);
        Key comer = keyAt(other);
        if (asking == null || comer == null || asking.rowSize >= MOST_IN_ROW) {
            return NO_SUCH;
        }
        if (comer.reaches(asking)) {
            noteRing(asking, comer);
            return REFUSED;
        }
        asking.row[asking.rowSize] = comer;
        asking.rowSize++;
        spreadReach(asking, comer);
        goToNextVersion();
        asking.alteredIn = version;
        return DONE;
    }

    public int ring(int i) {
        return i < 0 || i >= ringSize ? NONE : ringKeys[i];
    }

    public int change(int leaf, long v) {
        Key changing = keyAt(leaf);
        if (changing == null || !changing.isLeaf()) {
            return NONE;
        }
        if (changing.value != v) {
            goToNextVersion();
            changing.value = v;
            changing.changedIn = version;
        }
        return version;
    }

    public int spoil(int key, boolean on) {
        Key meant = keyWithFunction(key);
        if (meant == null) {
            return NONE;
        }
        if (meant.spoilt != on) {
            goToNextVersion();
            meant.spoilt = on;
            meant.alteredIn = version;
        }
        return version;
    }

    public int begin(int worker, int key) {
        Key wanted = keyAt(key);
        if (!isWorker(worker) || wanted == null || piles[worker].size > 0) {
            return NO_SUCH;
        }
        if (isSure(wanted)) {
            return ALREADY_SURE;
        }
        if (wanted.inPile) {
            return REFUSED;
        }
        piles[worker].put(wanted);
        return DONE;
    }

    public int step(int worker) {
        return isWorker(worker) ? goOn(piles[worker]) : NO_SUCH;
    }

    public int cancel() {
        return emptyPiles();
    }

    public int run(int key) {
        Key wanted = keyAt(key);
        if (wanted == null) {
            return NO_SUCH;
        }
        if (isSure(wanted)) {
            return wanted.has;
        }
        if (wanted.inPile) {
            return REFUSED;
        }
        return runOnOwnPile(wanted);
    }

    public int state(int key) {
        Key meant = keyAt(key);
        return meant == null || !isSure(meant) ? NOT_SURE : meant.has;
    }

    public long value(int key) throws IllegalArgumentException, IllegalStateException {
        Key meant = keyAt(key);
        if (meant == null) {
            throw new IllegalArgumentException("there is no such key");
        }
        if (!isSure(meant) || meant.has != VALUE) {
            throw new IllegalStateException("the key isn't sure, or has failed");
        }
        return meant.value;
    }

    public int worked(int key) {
        Key meant = keyAt(key);
        return meant == null ? 0 : meant.timesWorked;
    }

    public int kept(int key) {
        Key meant = keyAt(key);
        return meant == null ? 0 : meant.timesKept;
    }

    public int changed(int key) {
        Key meant = keyAt(key);
        return meant == null || !(meant.isLeaf() || meant.isKept) ? NONE : meant.changedIn;
    }

    public int asked(int key, int i) {
        Key meant = keyAt(key);
        return meant == null || !meant.isKept ? NONE : meant.askedPlace(i);
    }

    public boolean drop(int key) {
        Key meant = keyAt(key);
        if (meant == null || !meant.isKept) {
            return false;
        }
        meant.isKept = false;
        emptyPiles();
        return true;
    }

    public int version() {
        return version;
    }

    private int addKey(Key made) {
        keys[keyCount] = made;
        keyCount++;
        return made.number;
    }

    private Key keyAt(int number) {
        return number < 0 || number >= keyCount ? null : keys[number];
    }

    private Key keyWithFunction(int number) {
        Key meant = keyAt(number);
        return meant == null || meant.isLeaf() ? null : meant;
    }

    private static boolean isWorker(int worker) {
        return worker >= 0 && worker < WORKERS;
    }

    private boolean isSure(Key meant) {
        return meant.isLeaf() || (meant.isKept && meant.sureIn == version);
    }

    private void goToNextVersion() {
        version++;
        emptyPiles();
    }

    private int emptyPiles() {
        int gone = 0;
        for (int i = 0; i < piles.length; i++) {
            gone += piles[i].takeAll();
        }
        return gone;
    }

    /** Written down at once: rows that grow later could lead back by another way. */
    private void noteRing(Key asking, Key comer) {
        ringKeys[0] = asking.number;
        ringSize = 1;
        Key at = comer;
        while (at != null && at != asking && ringSize < MOST_KEYS) {
            ringKeys[ringSize] = at.number;
            ringSize++;
            at = at.firstThatReaches(asking);
        }
    }

    private void spreadReach(Key asking, Key comer) {
        for (int i = 0; i < keyCount; i++) {
            Key above = keyAt(i);
            if (above != null && above.reaches(asking)) {
                above.reach |= comer.reach;
            }
        }
    }

    private int runOnOwnPile(Key wanted) {
        Pile pile = piles[RUNNER];
        pile.put(wanted);
        for (int steps = 0; pile.size > 0 && steps < MOST_STEPS; steps++) {
            if (goOn(pile) == WAITS) {
                pile.takeAll();
                return REFUSED;
            }
        }
        return wanted.has;
    }

    private int goOn(Pile pile) {
        Key top = pile.topmost();
        if (top == null) {
            return IDLE;
        }
        return top.work.checking ? goOnChecking(top, pile) : goOnWorking(top, pile);
    }

    private int goOnChecking(Key top, Pile pile) {
        Key next = top.rowKey(top.askedPlace(top.work.count));
        if (next == null) {
            top.timesKept++;
            makeSure(top, pile);
            return FOUND;
        }
        if (!isSure(next)) {
            return findFirst(next, pile);
        }
        if (next.changedIn > top.sureIn) {
            top.work.startWorking(top);
            return CHECK_ENDED;
        }
        top.work.count++;
        return PASSED;
    }

    private int goOnWorking(Key top, Pile pile) {
        int place = top.work.nextPlace(top);
        Key next = top.rowKey(place);
        if (next == null) {
            endWork(top, pile, top.work.failed ? FAILED_ITSELF : VALUE);
            return FOUND;
        }
        if (!isSure(next)) {
            return findFirst(next, pile);
        }
        if (next.has != VALUE) {
            top.work.notePlace(place);
            endWork(top, pile, FAILED_BY_ANOTHER);
            return FOUND;
        }
        top.work.take(top, next.value);
        top.work.notePlace(place);
        return TAKEN;
    }

    /** As there are no rings, a key that lies in a pile here lies in another worker's. */
    private static int findFirst(Key next, Pile pile) {
        if (next.inPile) {
            return WAITS;
        }
        pile.put(next);
        return ON_TOP;
    }

    private void endWork(Key top, Pile pile, int outcome) {
        long result = outcome == VALUE ? top.work.result(top) : 0L;
        if (!top.isKept || top.has != outcome || top.value != result) {
            top.changedIn = version;
        }
        top.has = outcome;
        top.value = result;
        top.isKept = true;
        top.timesWorked++;
        top.keepAskedPlaces();
        makeSure(top, pile);
    }

    private void makeSure(Key top, Pile pile) {
        top.sureIn = version;
        pile.takeTopmost();
    }

    /** A leaf, or a key with a function: what it may ask, and what was found of it last. */
    private static final class Key {
        final int number;
        final int function;
        final Key[] row = new Key[MOST_IN_ROW];
        int rowSize;
        /** A bit for each key that this one comes to by rows, itself among them. */
        long reach;
        boolean spoilt;
        /** The version in which it was spoilt, or not any more, or its row grew, last. */
        int alteredIn;

        int has;
        /** 0 if it has failed, so that two failures of one kind are the same. */
        long value;
        int changedIn;
        boolean isKept;
        int sureIn;
        final int[] askedPlaces = new int[MOST_IN_ROW];
        int askedCount;
        int timesWorked;
        int timesKept;

        boolean inPile;
        /** One for each key is enough, as a key lies in one pile at most. */
        final Work work = new Work();

        Key(int number, int function) {
            this.number = number;
            this.function = function;
            reach = 1L << number;
        }

        boolean isLeaf() {
            return function == Work.LEAF;
        }

        boolean reaches(Key other) {
            return (reach & (1L << other.number)) != 0L;
        }

        Key firstThatReaches(Key other) {
            for (int i = 0; i < rowSize; i++) {
                Key next = rowKey(i);
                if (next != null && next.reaches(other)) {
                    return next;
                }
            }
            return null;
        }

        Key rowKey(int place) {
            return place < 0 || place >= rowSize ? null : row[place];
        }

        int askedPlace(int i) {
            return i < 0 || i >= askedCount ? NONE : askedPlaces[i];
        }

        void keepAskedPlaces() {
            askedCount = work.count;
            for (int i = 0; i < askedCount; i++) {
                askedPlaces[i] = work.places[i];
            }
        }
    }

    /** What is going on with a key in a pile; it is kept apart, as it may be cancelled. */
    private static final class Work {
        static final int LEAF = -1;
        static final int SUM = 0;
        static final int FIRST_NOT_ZERO = 1;
        static final int PICK = 2;
        static final int QUOTIENT = 3;
        static final int LOWEST_BIT = 4;
        static final int GREATEST = 5;
        static final int FUNCTIONS = 6;

        boolean checking;
        /** How many were passed by the check, or asked by the function. */
        int count;
        final int[] places = new int[MOST_IN_ROW];
        long gathered;
        boolean failed;

        void start(Key key) {
            startWorking(key);
            checking = key.isKept && key.alteredIn <= key.sureIn;
        }

        void startWorking(Key key) {
            checking = false;
            count = 0;
            gathered = 0L;
            failed = key.spoilt || (key.function == GREATEST && key.rowSize == 0);
        }

        int nextPlace(Key key) {
            if (failed || count >= key.rowSize) {
                return NONE;
            }
            switch (key.function) {
                case FIRST_NOT_ZERO:
                    return gathered == 0L ? count : NONE;
                case PICK:
                    return nextPick(key.rowSize - 1);
                default:
                    return count;
            }
        }

        private int nextPick(int others) {
            if (count == 0) {
                return 0;
            }
            if (count > 1 || others <= 0) {
                return NONE;
            }
            return 1 + (int) Math.floorMod(gathered, (long) others);
        }

        void take(Key key, long v) {
            switch (key.function) {
                case FIRST_NOT_ZERO:
                case PICK:
                    gathered = v;
                    break;
                case QUOTIENT:
                    divide(v);
                    break;
                case GREATEST:
                    gathered = count == 0 ? v : Math.max(gathered, v);
                    break;
                default:
                    gathered += v;
                    break;
            }
        }

        private void divide(long v) {
            if (count == 0) {
                gathered = v;
            } else if (v == 0L) {
                failed = true;
            } else {
                gathered /= v;
            }
        }

        void notePlace(int place) {
            if (count < places.length) {
                places[count] = place;
                count++;
            }
        }

        long result(Key key) {
            return key.function == LOWEST_BIT ? gathered & 1L : gathered;
        }
    }

    /** The keys that a worker finds; each one is asked by the one beneath it. */
    private static final class Pile {
        final Key[] keys = new Key[MOST_KEYS];
        int size;

        Key topmost() {
            return size <= 0 ? null : keys[size - 1];
        }

        void put(Key key) {
            if (size < keys.length) {
                key.work.start(key);
                key.inPile = true;
                keys[size] = key;
                size++;
            }
        }

        void takeTopmost() {
            Key top = topmost();
            if (top != null) {
                top.inPile = false;
                size--;
            }
        }

        int takeAll() {
            int gone = size;
            for (int i = 0; i < gone; i++) {
                takeTopmost();
            }
            return gone;
        }
    }
}
