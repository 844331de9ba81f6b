/** Counts and prints the answers that are not the ones that are due. */
final class Due {
    static final int NOTHING = 0;
    static final int ILLEGAL_ARGUMENT = 1;
    static final int ILLEGAL_STATE = 2;

    /** Arguments that are no number of a key, a worker, a function or a place in any object. */
    static final int[] FAR_OFF = {-1, -2, 40, 41, 256, 65536, Integer.MAX_VALUE, Integer.MIN_VALUE};

    private static int wrong = 0;
    private static int looked = 0;
    private static String heading = "";

    private Due() {
    }

    /** Stands before every answer that isn't due from now on. */
    static void under(String name) {
        heading = name + ": ";
    }

    static int looked() {
        return looked;
    }

    static void is(String call, long got, long want) {
        looked++;
        if (got != want) {
            wrong++;
            System.out.println(heading + call + " answered " + got + ", due is " + want);
        }
    }

    static void same(String what, String got, String want) {
        looked++;
        if (!got.equals(want)) {
            wrong++;
            System.out.println(heading + what + "\n  told " + got + "\n  due  " + want);
        }
    }

    static void is(String call, boolean got, boolean want) {
        is(call, got ? 1L : 0L, want ? 1L : 0L);
    }

    /** The answers of several calls in a row, as with the steps of a worker. */
    static void steps(String what, KeyGraph x, int worker, int... want) {
        for (int i = 0; i < want.length; i++) {
            is(what + ", step " + i, x.step(worker), want[i]);
        }
    }

    static void asked(KeyGraph x, int key, int... want) {
        for (int i = 0; i < want.length; i++) {
            is("asked(" + key + ", " + i + ")", x.asked(key, i), want[i]);
        }
        is("asked(" + key + ") beyond", x.asked(key, want.length), KeyGraph.NONE);
        is("asked(" + key + ") before", x.asked(key, -1), KeyGraph.NONE);
    }

    static void ring(KeyGraph x, int... want) {
        for (int i = 0; i < want.length; i++) {
            is("ring(" + i + ")", x.ring(i), want[i]);
        }
        is("ring beyond", x.ring(want.length), KeyGraph.NONE);
        is("ring before", x.ring(-1), KeyGraph.NONE);
    }

    static void value(KeyGraph x, int key, long want) {
        is("value(" + key + ") throws", thrownByValue(x, key), NOTHING);
        if (thrownByValue(x, key) == NOTHING) {
            is("value(" + key + ")", x.value(key), want);
        }
    }

    static void valueThrows(KeyGraph x, int key, int want) {
        is("value(" + key + ") throws", thrownByValue(x, key), want);
    }

    static int thrownByValue(KeyGraph x, int key) {
        try {
            x.value(key);
            return NOTHING;
        } catch (IllegalArgumentException e) {
            return e.getClass() == IllegalArgumentException.class ? ILLEGAL_ARGUMENT : 3;
        } catch (IllegalStateException e) {
            return e.getClass() == IllegalStateException.class ? ILLEGAL_STATE : 3;
        }
    }

    /** That a worker has a key in its pile, seen by another one whose pile is empty. */
    static void held(KeyGraph x, int idleWorker, int key) {
        is("begin(" + idleWorker + ", " + key + ") of what another has", x.begin(idleWorker, key), -2);
    }

    /** All that can be read of the first keys without changing anything, and of the ring. */
    static String told(KeyGraph x, int keys) {
        StringBuilder text = new StringBuilder("version " + x.version());
        for (int key = 0; key < keys; key++) {
            text.append(" | ").append(key).append(": ").append(x.state(key)).append(' ');
            text.append(x.worked(key)).append(' ').append(x.kept(key)).append(' ').append(x.changed(key));
            int thrown = thrownByValue(x, key);
            text.append(thrown == NOTHING ? " =" + x.value(key) : " throws " + thrown).append(" asked");
            for (int i = 0; i < 8; i++) {
                text.append(' ').append(x.asked(key, i));
            }
        }
        text.append(" | ring");
        for (int i = 0; i < keys; i++) {
            text.append(' ').append(x.ring(i));
        }
        return text.toString();
    }

    /** Steps of a worker until its pile is empty; the answers one behind the other. */
    static String allSteps(KeyGraph x, int worker) {
        StringBuilder text = new StringBuilder();
        int answer = x.step(worker);
        while (answer > 0 && answer != 3 && text.length() < 300) {
            text.append(answer);
            answer = x.step(worker);
        }
        return text.append(answer).toString();
    }

    /** A key with a function and a row of new leaves. */
    static int keyOver(KeyGraph x, int function, long... leaves) {
        int key = x.key(function);
        for (long v : leaves) {
            x.asks(key, x.leaf(v));
        }
        return key;
    }

    static void end() {
        if (wrong != 0 || looked == 0) {
            System.out.println(wrong + " of " + looked + " answers are not as due");
            System.exit(1);
        }
    }
}
