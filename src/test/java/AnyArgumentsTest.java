import java.util.Random;

/** Whatever is called with whatever arguments: nothing is thrown but by value, and all ends. */
public final class AnyArgumentsTest {
    private static final int SEEDS = 400;
    private static final int CALLS = 2000;
    private static final int[] ODD = {-1, -2, 4, 5, 8, 39, 40, 41, 64, Integer.MAX_VALUE, Integer.MIN_VALUE};

    public static void main(String[] args) {
        for (int seed = 0; seed < SEEDS; seed++) {
            Random random = new Random(seed);
            KeyGraph x = new KeyGraph();
            String thrown = "";
            try {
                for (int i = 0; i < CALLS; i++) {
                    call(x, random);
                }
            } catch (RuntimeException e) {
                thrown = e.toString();
            }
            Due.is("seed " + seed + " threw " + thrown, thrown.isEmpty(), true);
        }
        Due.end();
    }

    private static int any(Random random, int bound) {
        return random.nextInt(8) == 0 ? ODD[random.nextInt(ODD.length)] : random.nextInt(bound);
    }

    private static void call(KeyGraph x, Random random) {
        switch (random.nextInt(20)) {
            case 0 -> x.leaf(random.nextInt(5) - 2);
            case 1 -> x.key(any(random, 6));
            case 2, 3, 4 -> x.asks(any(random, 40), any(random, 40));
            case 5 -> x.ring(any(random, 40));
            case 6 -> x.change(any(random, 40), random.nextInt(3) - 1);
            case 7 -> x.spoil(any(random, 40), random.nextInt(3) == 0);
            case 8, 9 -> x.begin(any(random, 4), any(random, 40));
            case 10, 11, 12, 13 -> someSteps(x, random);
            case 14 -> x.run(any(random, 40));
            case 15 -> told(x, any(random, 40), any(random, 8));
            case 16 -> Due.thrownByValue(x, any(random, 40));
            case 17 -> dropOrCancel(x, random);
            default -> x.version();
        }
    }

    private static void someSteps(KeyGraph x, Random random) {
        for (int i = 0; i < 8; i++) {
            int answer = x.step(any(random, 4));
            Due.is("an answer of step: " + answer, answer >= -1 && answer <= 6, true);
        }
    }

    private static void told(KeyGraph x, int key, int i) {
        x.state(key);
        x.worked(key);
        x.kept(key);
        x.changed(key);
        x.asked(key, i);
    }

    private static void dropOrCancel(KeyGraph x, Random random) {
        if (random.nextInt(4) == 0) {
            x.cancel();
        } else {
            x.drop(any(random, 40));
        }
    }
}
