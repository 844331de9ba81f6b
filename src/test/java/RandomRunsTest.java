import java.util.List;
import java.util.Random;

/** Runs of calls drawn from fixed seeds, beside the model, by run and by the workers' steps. */
public final class RandomRunsTest {
    private static final int SEEDS = 300;
    private static final int ACTIONS = 200;
    private static final long[] VALUES = {0, 0, 0, 1, -1, 2, -2, 3, 7, 1000, Long.MIN_VALUE, Long.MAX_VALUE};

    private final Random random;
    private final KeyGraph x = new KeyGraph();
    private final Model model = new Model();
    private final boolean byWorkers;
    private final String name;

    private RandomRunsTest(int seed, boolean byWorkers) {
        random = new Random(seed);
        this.byWorkers = byWorkers;
        name = "seed " + seed + (byWorkers ? " by workers" : " by run");
    }

    public static void main(String[] args) {
        for (int seed = 0; seed < SEEDS; seed++) {
            new RandomRunsTest(seed, false).play();
            new RandomRunsTest(seed, true).play();
        }
        Due.end();
    }

    private void play() {
        int most = 3 + random.nextInt(38);
        for (int i = 0; i < ACTIONS; i++) {
            boolean grow = model.nodes.size() < most && (i < 4 || random.nextInt(3) == 0);
            if (grow) {
                make();
            } else {
                act();
            }
        }
    }

    private long anyValue() {
        return VALUES[random.nextInt(VALUES.length)];
    }

    private int anyKey() {
        return random.nextInt(model.nodes.size());
    }

    private int anyWithFunction(boolean function) {
        for (int tries = 0; tries < 20; tries++) {
            int key = anyKey();
            if (model.nodes.get(key).function >= 0 == function) {
                return key;
            }
        }
        return -1;
    }

    private void make() {
        int number = model.nodes.size();
        if (random.nextInt(3) == 0) {
            long v = anyValue();
            model.addLeaf(v);
            Due.is(name + " leaf", x.leaf(v), number);
        } else {
            int function = random.nextInt(6);
            model.addKey(function);
            Due.is(name + " key", x.key(function), number);
        }
    }

    private void act() {
        int kind = random.nextInt(12);
        if (kind < 4) {
            ask();
        } else if (kind < 6) {
            alter();
        } else if (kind < 7) {
            int key = anyKey();
            Due.is(name + " drop", x.drop(key), model.drop(key));
        } else {
            find();
            compare();
        }
        Due.is(name + " version", x.version(), model.version);
    }

    private void ask() {
        int key = anyKey();
        int other = anyKey();
        int due = model.asks(key, other);
        Due.is(name + " asks", x.asks(key, other), due);
        if (due == -2) {
            List<Integer> ring = model.ring(key, other);
            Due.ring(x, ring.stream().mapToInt(Integer::intValue).toArray());
        }
    }

    private void alter() {
        boolean change = random.nextInt(4) != 0;
        int key = anyWithFunction(!change);
        if (key < 0) {
            return;
        }
        if (change) {
            long v = anyValue();
            model.change(key, v);
            Due.is(name + " change", x.change(key, v), model.version);
        } else {
            boolean on = random.nextInt(3) == 0;
            model.spoil(key, on);
            Due.is(name + " spoil", x.spoil(key, on), model.version);
        }
    }

    private void find() {
        if (byWorkers) {
            findByWorkers();
        } else {
            int key = anyKey();
            Due.is(name + " run", x.run(key), model.run(key));
        }
    }

    /** However their steps mingle, four workers do what one after the other would do. */
    private void findByWorkers() {
        int[] wanted = new int[4];
        boolean[] began = new boolean[4];
        for (int worker = 0; worker < 4; worker++) {
            wanted[worker] = anyKey();
            int due = x.state(wanted[worker]) != 0 ? 0 : 1;
            for (int before = 0; before < worker; before++) {
                due = due == 1 && began[before] && wanted[before] == wanted[worker] ? -2 : due;
            }
            began[worker] = due == 1;
            Due.is(name + " begin", x.begin(worker, wanted[worker]), due);
        }
        int idle = 0;
        for (int steps = 0; idle < 40 && steps < 20000; steps++) {
            int answer = x.step(random.nextInt(4));
            idle = answer == 0 || answer == 3 ? idle + 1 : 0;
        }
        for (int worker = 0; worker < 4; worker++) {
            Due.is(name + " the pile is empty", finish(worker), 0);
            model.run(wanted[worker]);
        }
    }

    private int finish(int worker) {
        int answer = 1;
        for (int steps = 0; answer != 0 && steps < 20000; steps++) {
            answer = x.step(worker);
            if (answer == 3) {
                x.step(random.nextInt(4));
            }
        }
        return answer;
    }

    private void compare() {
        for (int key = 0; key < model.nodes.size(); key++) {
            Model.Node n = model.nodes.get(key);
            int state = model.state(key);
            Due.is(name + " state(" + key + ")", x.state(key), state);
            Due.is(name + " worked(" + key + ")", x.worked(key), n.worked);
            Due.is(name + " kept(" + key + ")", x.kept(key), n.keptTimes);
            Due.is(name + " changed(" + key + ")", x.changed(key), model.changed(key));
            Due.asked(x, key, n.asked.stream().mapToInt(Integer::intValue).toArray());
            if (state == 1) {
                Due.value(x, key, model.value(key));
            } else {
                Due.valueThrows(x, key, Due.ILLEGAL_STATE);
            }
        }
    }
}
