import java.util.ArrayList;
import java.util.List;

/** The document's finding, written anew by recursion and without workers, to compare with. */
final class Model {
    static final class Node {
        int function = -1;
        long leafValue;
        final List<Integer> row = new ArrayList<>();
        boolean spoilt;
        int altered;
        boolean kept;
        int sure = -1;
        int has;
        long value;
        int changed;
        List<Integer> asked = new ArrayList<>();
        int worked;
        int keptTimes;
    }

    /** Ends the working out of a key: by itself (2) or by another (3). */
    private static final class Failure extends Exception {
        private static final long serialVersionUID = 1L;
        final int kind;

        Failure(int kind) {
            this.kind = kind;
        }
    }

    final List<Node> nodes = new ArrayList<>();
    int version;

    void addLeaf(long v) {
        Node n = new Node();
        n.leafValue = v;
        n.changed = version;
        nodes.add(n);
    }

    void addKey(int function) {
        Node n = new Node();
        n.function = function;
        nodes.add(n);
    }

    boolean comesTo(int from, int to) {
        if (from == to) {
            return true;
        }
        for (int next : nodes.get(from).row) {
            if (comesTo(next, to)) {
                return true;
            }
        }
        return false;
    }

    int asks(int key, int other) {
        Node n = nodes.get(key);
        if (n.function < 0 || n.row.size() == 8) {
            return -1;
        }
        if (comesTo(other, key)) {
            return -2;
        }
        n.row.add(other);
        n.altered = ++version;
        return 1;
    }

    List<Integer> ring(int key, int other) {
        List<Integer> ring = new ArrayList<>();
        ring.add(key);
        int at = other;
        while (at != key) {
            ring.add(at);
            for (int next : nodes.get(at).row) {
                if (comesTo(next, key)) {
                    at = next;
                    break;
                }
            }
        }
        return ring;
    }

    void change(int leaf, long v) {
        Node n = nodes.get(leaf);
        if (n.leafValue != v) {
            n.leafValue = v;
            n.changed = ++version;
        }
    }

    void spoil(int key, boolean on) {
        Node n = nodes.get(key);
        if (n.spoilt != on) {
            n.spoilt = on;
            n.altered = ++version;
        }
    }

    boolean drop(int key) {
        Node n = nodes.get(key);
        boolean was = n.kept;
        n.kept = false;
        n.asked = new ArrayList<>();
        return was;
    }

    int state(int key) {
        Node n = nodes.get(key);
        if (n.function < 0) {
            return 1;
        }
        return n.kept && n.sure == version ? n.has : 0;
    }

    long value(int key) {
        Node n = nodes.get(key);
        return n.function < 0 ? n.leafValue : n.value;
    }

    int changed(int key) {
        Node n = nodes.get(key);
        return n.function < 0 || n.kept ? n.changed : -1;
    }

    int run(int key) {
        find(key);
        return state(key);
    }

    private void find(int key) {
        Node n = nodes.get(key);
        if (state(key) != 0) {
            return;
        }
        if (n.kept && n.altered <= n.sure && nothingAskedHasChanged(n)) {
            n.keptTimes++;
        } else {
            workOut(n);
        }
        n.sure = version;
    }

    private boolean nothingAskedHasChanged(Node n) {
        for (int place : n.asked) {
            find(n.row.get(place));
            if (nodes.get(n.row.get(place)).changed > n.sure) {
                return false;
            }
        }
        return true;
    }

    private void workOut(Node n) {
        List<Integer> asked = new ArrayList<>();
        int has = 1;
        long value = 0;
        try {
            value = call(n, asked);
        } catch (Failure f) {
            has = f.kind;
        }
        boolean same = n.kept && n.has == has && (has != 1 || n.value == value);
        n.changed = same ? n.changed : version;
        n.has = has;
        n.value = value;
        n.asked = asked;
        n.kept = true;
        n.worked++;
    }

    private long ask(Node n, int place, List<Integer> asked) throws Failure {
        int other = n.row.get(place);
        find(other);
        asked.add(place);
        if (state(other) != 1) {
            throw new Failure(3);
        }
        return value(other);
    }

    private long call(Node n, List<Integer> asked) throws Failure {
        if (n.spoilt) {
            throw new Failure(2);
        }
        int size = n.row.size();
        switch (n.function) {
            case 0:
                return sum(n, asked);
            case 1:
                for (int i = 0; i < size; i++) {
                    long v = ask(n, i, asked);
                    if (v != 0) {
                        return v;
                    }
                }
                return 0;
            case 2:
                return pick(n, asked);
            case 3:
                return quotient(n, asked);
            case 4:
                return sum(n, asked) % 2 == 0 ? 0 : 1;
            default:
                return greatest(n, asked);
        }
    }

    private long sum(Node n, List<Integer> asked) throws Failure {
        long sum = 0;
        for (int i = 0; i < n.row.size(); i++) {
            sum += ask(n, i, asked);
        }
        return sum;
    }

    private long pick(Node n, List<Integer> asked) throws Failure {
        if (n.row.isEmpty()) {
            return 0;
        }
        long v = ask(n, 0, asked);
        int others = n.row.size() - 1;
        if (others == 0) {
            return v;
        }
        long place = v % others;
        return ask(n, (int) (place < 0 ? place + others : place) + 1, asked);
    }

    private long quotient(Node n, List<Integer> asked) throws Failure {
        if (n.row.isEmpty()) {
            return 0;
        }
        long v = ask(n, 0, asked);
        for (int i = 1; i < n.row.size(); i++) {
            long by = ask(n, i, asked);
            if (by == 0) {
                throw new Failure(2);
            }
            v = v / by;
        }
        return v;
    }

    private long greatest(Node n, List<Integer> asked) throws Failure {
        if (n.row.isEmpty()) {
            throw new Failure(2);
        }
        long most = Long.MIN_VALUE;
        for (int i = 0; i < n.row.size(); i++) {
            long v = ask(n, i, asked);
            most = v > most ? v : most;
        }
        return most;
    }
}
