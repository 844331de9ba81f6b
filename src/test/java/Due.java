/** Counts and prints the answers that are not the ones that are due. */
final class Due {
    static final int NOTHING = 0;
    static final int ILLEGAL_ARGUMENT = 1;
    static final int ILLEGAL_STATE = 2;

    private static int wrong = 0;
    private static int looked = 0;

    private Due() {
    }

    static void is(String call, long got, long want) {
        looked++;
        if (got != want) {
            wrong++;
            System.out.println(call + " answered " + got + ", due is " + want);
        }
    }

    static void is(String call, boolean got, boolean want) {
        is(call, got ? 1L : 0L, want ? 1L : 0L);
    }

    /** The answers of several calls in a row, as with the steps of a worker. */
    static void steps(String what, KeyGraph x, int worker, int... want) {
        for (int i = 0; i < want.length; i++) {
            is(what + ", step " + i, x.step(worker), want[i]);
        }
    }

    static void asked(KeyGraph x, int key, int... want) {
        for (int i = 0; i < want.length; i++) {
            is("asked(" + key + ", " + i + ")", x.asked(key, i), want[i]);
        }
        is("asked(" + key + ") beyond", x.asked(key, want.length), KeyGraph.NONE);
        is("asked(" + key + ") before", x.asked(key, -1), KeyGraph.NONE);
    }

    static void ring(KeyGraph x, int... want) {
        for (int i = 0; i < want.length; i++) {
            is("ring(" + i + ")", x.ring(i), want[i]);
        }
        is("ring beyond", x.ring(want.length), KeyGraph.NONE);
        is("ring before", x.ring(-1), KeyGraph.NONE);
    }

    static void value(KeyGraph x, int key, long want) {
        is("value(" + key + ") throws", thrownByValue(x, key), NOTHING);
        if (thrownByValue(x, key) == NOTHING) {
            is("value(" + key + ")", x.value(key), want);
        }
    }

    static void valueThrows(KeyGraph x, int key, int want) {
        is("value(" + key + ") throws", thrownByValue(x, key), want);
    }

    static int thrownByValue(KeyGraph x, int key) {
        try {
            x.value(key);
            return NOTHING;
        } catch (IllegalArgumentException e) {
            return e.getClass() == IllegalArgumentException.class ? ILLEGAL_ARGUMENT : 3;
        } catch (IllegalStateException e) {
            return e.getClass() == IllegalStateException.class ? ILLEGAL_STATE : 3;
        }
    }

    /** A key with a function and a row of new leaves. */
    static int keyOver(KeyGraph x, int function, long... leaves) {
        int key = x.key(function);
        for (long v : leaves) {
            x.asks(key, x.leaf(v));
        }
        return key;
    }

    static void end() {
        if (wrong != 0 || looked == 0) {
            System.out.println(wrong + " of " + looked + " answers are not as due");
            System.exit(1);
        }
    }
}
