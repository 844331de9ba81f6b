import java.util.Random;

/** Runs from fixed seeds, within the 512 calls of an object: each answers what the twin answers. */
public final class EveryCallTest {
    private static final int SEEDS = 4000;
    private static final int CALLS = 440;
    private static final long[] VALUES = {0, 0, 0, 1, -1, 2, 3, -7, 1L << 32, Long.MIN_VALUE, Long.MAX_VALUE};

    private final Random random;
    private final KeyGraph x = new KeyGraph();
    private final Twin twin = new Twin();
    private final int mostKeys;
    private final int callsOfGrowth;
    private final int calmness;
    private final int workers;

    private EveryCallTest(int seed) {
        random = new Random(seed);
        mostKeys = 4 + random.nextInt(40);
        callsOfGrowth = mostKeys * (2 + random.nextInt(4));
        calmness = 1 + random.nextInt(40);
        workers = 1 + random.nextInt(4);
    }

    public static void main(String[] args) {
        for (int seed = 0; seed < SEEDS; seed++) {
            Due.under("seed " + seed);
            EveryCallTest test = new EveryCallTest(seed);
            for (int i = 0; i < CALLS; i++) {
                test.call(i);
            }
        }
        Due.end();
    }

    private int anyKey() {
        if (random.nextInt(40) == 0) {
            return Due.FAR_OFF[random.nextInt(Due.FAR_OFF.length)];
        }
        return random.nextInt(twin.size() + 1);
    }

    private int anyWorker() {
        return random.nextInt(40) == 0 ? random.nextInt(12) - 4 : random.nextInt(workers);
    }

    private long anyValue() {
        return VALUES[random.nextInt(VALUES.length)];
    }

    /** Rows grow mostly at first, so that much is kept and checked later on. */
    private void call(int i) {
        if (i < callsOfGrowth) {
            if (twin.size() < mostKeys && random.nextInt(3) == 0) {
                make();
            } else {
                ask();
            }
        } else if (random.nextInt(calmness) == 0) {
            alter();
        } else if (random.nextInt(5) > 0) {
            work();
        } else {
            read();
        }
    }

    private void make() {
        if (random.nextInt(3) == 0) {
            long v = anyValue();
            Due.is("leaf(" + v + ")", x.leaf(v), twin.leaf(v));
        } else {
            int function = random.nextInt(7) - (random.nextInt(20) == 0 ? 1 : 0);
            Due.is("key(" + function + ")", x.key(function), twin.key(function));
        }
    }

    private void ask() {
        int key = anyKey();
        int other = random.nextInt(12) == 0 ? key : anyKey();
        Due.is("asks(" + key + ", " + other + ")", x.asks(key, other), twin.asks(key, other));
    }

    private void alter() {
        int key = anyKey();
        switch (random.nextInt(10)) {
            case 0 -> ask();
            case 1 -> make();
            case 2 -> Due.is("drop(" + key + ")", x.drop(key), twin.drop(key));
            case 3 -> {
                boolean on = random.nextInt(3) == 0;
                Due.is("spoil(" + key + ", " + on + ")", x.spoil(key, on), twin.spoil(key, on));
            }
            default -> {
                long v = anyValue();
                Due.is("change(" + key + ", " + v + ")", x.change(key, v), twin.change(key, v));
            }
        }
    }

    private void work() {
        int worker = anyWorker();
        int key = anyKey();
        switch (random.nextInt(60)) {
            case 0 -> Due.is("cancel()", x.cancel(), twin.cancel());
            case 1, 2, 3 -> Due.is("run(" + key + ")", x.run(key), twin.run(key));
            case 4, 5, 6, 7, 8, 9, 10, 11, 12, 13 ->
                Due.is("begin(" + worker + ", " + key + ")", x.begin(worker, key), twin.begin(worker, key));
            default -> Due.is("step(" + worker + ")", x.step(worker), twin.step(worker));
        }
    }

    private void read() {
        int key = anyKey();
        int i = random.nextInt(10) - 1;
        switch (random.nextInt(8)) {
            case 0 -> Due.is("state(" + key + ")", x.state(key), twin.state(key));
            case 1 -> Due.is("worked(" + key + ")", x.worked(key), twin.worked(key));
            case 2 -> Due.is("kept(" + key + ")", x.kept(key), twin.kept(key));
            case 3 -> Due.is("changed(" + key + ")", x.changed(key), twin.changed(key));
            case 4 -> Due.is("asked(" + key + ", " + i + ")", x.asked(key, i), twin.asked(key, i));
            case 5 -> Due.is("ring(" + i + ")", x.ring(i), twin.ring(i));
            case 6 -> Due.is("version()", x.version(), twin.version());
            default -> readValue(key);
        }
    }

    private void readValue(int key) {
        int thrown = twin.thrownByValue(key);
        if (thrown == Due.NOTHING) {
            Due.value(x, key, twin.value(key));
        } else {
            Due.valueThrows(x, key, thrown);
        }
    }
}
