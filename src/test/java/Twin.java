import java.util.ArrayList;
import java.util.Arrays;
import java.util.List;

/**
 * The whole face once more, written as near to the document's words as can be and without a thought
 * of speed: a step works out anew, from what was taken so far, what its function wants next.
 */
final class Twin {
    private static final int WANTS = 0;
    private static final int HAS = 1;
    private static final int FAILS = 2;

    private static final class Node {
        final int function;
        long value;
        final List<Integer> row = new ArrayList<>();
        boolean spoilt;
        int altered = -1;
        int has;
        int changed;
        boolean kept;
        int sure = -1;
        List<Integer> asked = new ArrayList<>();
        int worked;
        int checked;

        Node(int function) {
            this.function = function;
        }
    }

    /** A key in a pile, with what has been done of it. */
    private static final class Frame {
        final int key;
        boolean check;
        int passed;
        final List<Integer> places = new ArrayList<>();
        final List<Long> taken = new ArrayList<>();

        Frame(int key, boolean check) {
            this.key = key;
            this.check = check;
        }
    }

    /** What a function wants next, or what it comes to. */
    private static final class Want {
        final int kind;
        final long number;

        Want(int kind, long number) {
            this.kind = kind;
            this.number = number;
        }
    }

    private final List<Node> nodes = new ArrayList<>();
    private final List<List<Frame>> piles = new ArrayList<>();
    private List<Integer> ring = new ArrayList<>();
    private int version;

    Twin() {
        for (int i = 0; i < 5; i++) {
            piles.add(new ArrayList<>());
        }
    }

    int size() {
        return nodes.size();
    }

    private boolean is(int key) {
        return key >= 0 && key < nodes.size();
    }

    private boolean isLeaf(int key) {
        return is(key) && nodes.get(key).function < 0;
    }

    private boolean hasFunction(int key) {
        return is(key) && nodes.get(key).function >= 0;
    }

    private boolean sure(int key) {
        Node n = nodes.get(key);
        return n.function < 0 || (n.kept && n.sure == version);
    }

    private boolean inAPile(int key) {
        return piles.stream().anyMatch(pile -> pile.stream().anyMatch(f -> f.key == key));
    }

    int leaf(long v) {
        if (nodes.size() == 40) {
            return -1;
        }
        Node n = new Node(-1);
        n.value = v;
        n.has = 1;
        n.changed = version;
        nodes.add(n);
        return nodes.size() - 1;
    }

    int key(int function) {
        if (nodes.size() == 40 || !Arrays.asList(0, 1, 2, 3, 4, 5).contains(function)) {
            return -1;
        }
        nodes.add(new Node(function));
        return nodes.size() - 1;
    }

    int asks(int key, int other) {
        if (!hasFunction(key) || !is(other) || nodes.get(key).row.size() == 8) {
            return -1;
        }
        List<Integer> way = wayBack(other, key);
        if (way != null) {
            ring = new ArrayList<>();
            ring.add(key);
            ring.addAll(way);
            return -2;
        }
        nodes.get(key).row.add(other);
        newVersion();
        nodes.get(key).altered = version;
        return 1;
    }

    /** The keys from one up to, but without, another; null if it doesn't come there. */
    private List<Integer> wayBack(int from, int to) {
        if (from == to) {
            return new ArrayList<>();
        }
        for (int next : nodes.get(from).row) {
            List<Integer> rest = wayBack(next, to);
            if (rest != null) {
                rest.add(0, from);
                return rest;
            }
        }
        return null;
    }

    int ring(int i) {
        return i >= 0 && i < ring.size() ? ring.get(i) : -1;
    }

    private void newVersion() {
        version++;
        cancel();
    }

    int change(int leaf, long v) {
        if (!isLeaf(leaf)) {
            return -1;
        }
        Node n = nodes.get(leaf);
        if (n.value != v) {
            newVersion();
            n.value = v;
            n.changed = version;
        }
        return version;
    }

    int spoil(int key, boolean on) {
        if (!hasFunction(key)) {
            return -1;
        }
        Node n = nodes.get(key);
        if (n.spoilt != on) {
            newVersion();
            n.spoilt = on;
            n.altered = version;
        }
        return version;
    }

    int begin(int worker, int key) {
        if (worker < 0 || worker > 3 || !is(key) || !piles.get(worker).isEmpty()) {
            return -1;
        }
        if (sure(key)) {
            return 0;
        }
        if (inAPile(key)) {
            return -2;
        }
        put(piles.get(worker), key);
        return 1;
    }

    private void put(List<Frame> pile, int key) {
        Node n = nodes.get(key);
        pile.add(new Frame(key, n.kept && !(n.altered > n.sure)));
    }

    int step(int worker) {
        return worker < 0 || worker > 3 ? -1 : go(piles.get(worker));
    }

    private int go(List<Frame> pile) {
        if (pile.isEmpty()) {
            return 0;
        }
        Frame top = pile.get(pile.size() - 1);
        return top.check ? goChecking(pile, top) : goWorking(pile, top);
    }

    private int goChecking(List<Frame> pile, Frame top) {
        Node n = nodes.get(top.key);
        if (top.passed == n.asked.size()) {
            n.checked++;
            n.sure = version;
            pile.remove(top);
            return 2;
        }
        int next = n.row.get(n.asked.get(top.passed));
        if (!sure(next)) {
            return findFirst(pile, next);
        }
        if (nodes.get(next).changed > n.sure) {
            top.check = false;
            return 5;
        }
        top.passed++;
        return 4;
    }

    private int findFirst(List<Frame> pile, int next) {
        if (inAPile(next)) {
            return 3;
        }
        put(pile, next);
        return 1;
    }

    private int goWorking(List<Frame> pile, Frame top) {
        Node n = nodes.get(top.key);
        Want want = n.spoilt ? new Want(FAILS, 0) : want(n.function, n.row.size(), top.taken);
        if (want.kind != WANTS) {
            return end(pile, top, want.kind == HAS ? 1 : 2, want.number);
        }
        int place = (int) want.number;
        int next = n.row.get(place);
        if (!sure(next)) {
            return findFirst(pile, next);
        }
        top.places.add(place);
        if (nodes.get(next).has != 1) {
            return end(pile, top, 3, 0);
        }
        top.taken.add(nodes.get(next).value);
        return 6;
    }

    private int end(List<Frame> pile, Frame top, int has, long value) {
        Node n = nodes.get(top.key);
        boolean same = n.kept && n.has == has && (has != 1 || n.value == value);
        if (!same) {
            n.changed = version;
        }
        n.has = has;
        n.value = value;
        n.kept = true;
        n.sure = version;
        n.asked = top.places;
        n.worked++;
        pile.remove(top);
        return 2;
    }

    private static Want want(int function, int size, List<Long> taken) {
        switch (function) {
            case 1:
                return wantFirstNotZero(size, taken);
            case 2:
                return wantPick(size, taken);
            case 3:
                return wantQuotient(size, taken);
            case 5:
                if (size == 0) {
                    return new Want(FAILS, 0);
                }
                return allOr(size, taken, taken.stream().mapToLong(Long::longValue).max().orElse(0));
            default:
                long sum = taken.stream().mapToLong(Long::longValue).sum();
                return allOr(size, taken, function == 0 ? sum : Math.floorMod(sum, 2L));
        }
    }

    private static Want allOr(int size, List<Long> taken, long value) {
        return taken.size() < size ? new Want(WANTS, taken.size()) : new Want(HAS, value);
    }

    private static Want wantFirstNotZero(int size, List<Long> taken) {
        for (long v : taken) {
            if (v != 0) {
                return new Want(HAS, v);
            }
        }
        return allOr(size, taken, 0);
    }

    private static Want wantPick(int size, List<Long> taken) {
        if (taken.size() == 2 || (taken.size() == 1 && size == 1)) {
            return new Want(HAS, taken.get(taken.size() - 1));
        }
        if (taken.isEmpty()) {
            return allOr(size, taken, 0);
        }
        long n = size - 1;
        return new Want(WANTS, 1 + ((taken.get(0) % n) + n) % n);
    }

    private static Want wantQuotient(int size, List<Long> taken) {
        long v = taken.isEmpty() ? 0 : taken.get(0);
        for (int i = 1; i < taken.size(); i++) {
            if (taken.get(i) == 0) {
                return new Want(FAILS, 0);
            }
            v /= taken.get(i);
        }
        return allOr(size, taken, v);
    }

    int cancel() {
        int gone = 0;
        for (List<Frame> pile : piles) {
            gone += pile.size();
            pile.clear();
        }
        return gone;
    }

    int run(int key) {
        if (!is(key)) {
            return -1;
        }
        if (sure(key)) {
            return nodes.get(key).has;
        }
        if (inAPile(key)) {
            return -2;
        }
        List<Frame> own = piles.get(4);
        put(own, key);
        while (!own.isEmpty()) {
            if (go(own) == 3) {
                own.clear();
                return -2;
            }
        }
        return nodes.get(key).has;
    }

    int state(int key) {
        return is(key) && sure(key) ? nodes.get(key).has : 0;
    }

    int thrownByValue(int key) {
        if (!is(key)) {
            return Due.ILLEGAL_ARGUMENT;
        }
        return state(key) == 1 ? Due.NOTHING : Due.ILLEGAL_STATE;
    }

    long value(int key) {
        return nodes.get(key).value;
    }

    int worked(int key) {
        return is(key) ? nodes.get(key).worked : 0;
    }

    int kept(int key) {
        return is(key) ? nodes.get(key).checked : 0;
    }

    int changed(int key) {
        return isLeaf(key) || (is(key) && nodes.get(key).kept) ? nodes.get(key).changed : -1;
    }

    int asked(int key, int i) {
        boolean there = is(key) && nodes.get(key).kept && i >= 0 && i < nodes.get(key).asked.size();
        return there ? nodes.get(key).asked.get(i) : -1;
    }

    boolean drop(int key) {
        if (!is(key) || !nodes.get(key).kept) {
            return false;
        }
        nodes.get(key).kept = false;
        cancel();
        return true;
    }

    int version() {
        return version;
    }
}
