import java.util.ArrayList;
import java.util.Comparator;
import java.util.List;
import java.util.NoSuchElementException;

/**
 * The document's Terms said a second time, as plainly as the whole library allows and with nothing
 * kept that can be worked out: what EvenClock is held against.
 */
final class PlainClock {
    /** A range of one coordinate. */
    record Range(int low, int high) {
        int gapTo(Range other) {
            if (high < other.low) {
                return other.low - high;
            }
            return other.high < low ? low - other.high : 0;
        }

        Range widened(int by) {
            return new Range(low - by, high + by);
        }

        Range shared(Range other) {
            return new Range(Math.max(low, other.low), Math.min(high, other.high));
        }

        int nearestTo(int wanted) {
            if (wanted < low) {
                return low;
            }
            return wanted > high ? high : wanted;
        }
    }

    /** A sink as told. */
    record Sink(int number, int x, int y, int load, int need) {
    }

    /** A node of the tree. */
    static final class Node {
        final int number;
        final Sink sink;
        final Node left;
        final Node right;
        final Range u;
        final Range v;
        final int time;
        Node parent;
        int wire;

        Node(Sink sink) {
            this.number = sink.number;
            this.sink = sink;
            this.left = null;
            this.right = null;
            this.u = new Range(1024 * (sink.x + sink.y), 1024 * (sink.x + sink.y));
            this.v = new Range(1024 * (sink.x - sink.y), 1024 * (sink.x - sink.y));
            this.time = 0;
        }

        Node(int number, Node left, Node right) {
            this.number = number;
            this.sink = null;
            this.left = left;
            this.right = right;
            int d = left.distance(right);
            if (left.time > d + right.time) {
                right.wire = left.time - right.time;
                left.wire = 0;
            } else if (right.time > d + left.time) {
                left.wire = right.time - left.time;
                right.wire = 0;
            } else {
                left.wire = (d + right.time - left.time) / 2;
                right.wire = d - left.wire;
            }
            this.u = left.u.widened(left.wire).shared(right.u.widened(right.wire));
            this.v = left.v.widened(left.wire).shared(right.v.widened(right.wire));
            this.time = left.time + left.wire;
            left.parent = this;
            right.parent = this;
        }

        int distance(Node other) {
            return Math.max(u.gapTo(other.u), v.gapTo(other.v));
        }
    }

    private final List<Sink> sinks = new ArrayList<>();
    /** Empty when there is no tree. */
    private final List<Node> nodes = new ArrayList<>();
    private int sourceX;
    private int sourceY;
    private int r = 1;
    private int c = 1;
    private int input = 1;
    private int drive = 1;
    private int hold;
    private int setting;

    int sink(int x, int y, int load, int need) {
        asSaid(x, 0, 200);
        asSaid(y, 0, 200);
        asSaid(load, 1, 100);
        asSaid(need, 0, 1000000000);
        if (sinks.size() == 10) {
            throw new UnsupportedOperationException();
        }
        nodes.clear();
        sinks.add(new Sink(sinks.size(), x, y, load, need));
        return sinks.size() - 1;
    }

    void cut(int n) {
        asSaid(n, 0, sinks.size());
        nodes.clear();
        sinks.subList(n, sinks.size()).clear();
    }

    void source(int x, int y) {
        asSaid(x, 0, 200);
        asSaid(y, 0, 200);
        nodes.clear();
        sourceX = x;
        sourceY = y;
    }

    void wires(int resistance, int capacity) {
        asSaid(resistance, 1, 20);
        asSaid(capacity, 1, 20);
        r = resistance;
        c = capacity;
    }

    void buffer(int newInput, int newDrive, int newDelay) {
        asSaid(newInput, 1, 1000000);
        asSaid(newDrive, 1, 1000);
        asSaid(newDelay, 0, 1000000000);
        input = newInput;
        drive = newDrive;
        hold = newDelay;
    }

    int sinks() {
        return sinks.size();
    }

    int build(int way) {
        asSaid(way, 0, 1);
        if (sinks.isEmpty()) {
            throw new NoSuchElementException();
        }
        setting = 0;
        nodes.clear();
        for (Sink sink : sinks) {
            nodes.add(new Node(sink));
        }
        if (way == 0) {
            joinNearest();
        } else {
            joinRow(sinks, 0);
        }
        root().wire = Math.max(Math.abs(placeU(root()) - sourceU()),
                Math.abs(placeV(root()) - sourceV()));
        return nodes.size();
    }

    boolean hasTree() {
        return !nodes.isEmpty();
    }

    int node(int k, int part) {
        needTree();
        oneOf(k, 0, nodes.size());
        oneOf(part, 0, 11);
        return part(nodes.get(k), part);
    }

    int length() {
        needTree();
        return nodes.stream().mapToInt(node -> node.wire).sum();
    }

    int depth(int sink) {
        needTree();
        oneOf(sink, 0, sinks.size());
        return depth(nodes.get(sink));
    }

    boolean set(int join, boolean on) {
        needTree();
        oneOf(join, sinks.size(), nodes.size());
        boolean changes = hasBuffer(nodes.get(join), setting) != on;
        setting ^= changes ? 1 << (join - sinks.size()) : 0;
        return changes;
    }

    int setting() {
        needTree();
        return setting;
    }

    long load(int k, boolean shown) {
        needTree();
        oneOf(k, 0, nodes.size());
        return shown ? shows(nodes.get(k), setting) : bears(nodes.get(k), setting);
    }

    long delay(int sink) {
        needTree();
        oneOf(sink, 0, sinks.size());
        return delay(nodes.get(sink), setting);
    }

    long slack() {
        needTree();
        return slack(setting);
    }

    long best() {
        needTree();
        return slack(bestSetting());
    }

    int improve() {
        needTree();
        setting = bestSetting();
        return setting;
    }

    private static void asSaid(int number, int least, int most) {
        if (number < least || number > most) {
            throw new IllegalArgumentException();
        }
    }

    private void needTree() {
        if (!hasTree()) {
            throw new IllegalStateException();
        }
    }

    private static void oneOf(int number, int first, int end) {
        if (number < first || number >= end) {
            throw new IndexOutOfBoundsException();
        }
    }

    private void joinNearest() {
        List<Node> free = new ArrayList<>(nodes);
        while (free.size() > 1) {
            List<Node[]> pairs = new ArrayList<>();
            for (Node a : free) {
                for (Node b : free) {
                    if (a.number < b.number) {
                        pairs.add(new Node[] {a, b});
                    }
                }
            }
            Comparator<Node[]> order = Comparator.comparingInt(p -> p[0].distance(p[1]));
            order = order.thenComparingInt(p -> p[0].number).thenComparingInt(p -> p[1].number);
            pairs.sort(order);
            Node[] chosen = pairs.get(0);
            free.remove(chosen[0]);
            free.remove(chosen[1]);
            free.add(addJoin(chosen[0], chosen[1]));
        }
    }

    private Node joinRow(List<Sink> row, int cutBefore) {
        if (row.size() == 1) {
            return nodes.get(row.get(0).number);
        }
        Comparator<Sink> byX = Comparator.comparingInt(Sink::x);
        Comparator<Sink> byY = Comparator.comparingInt(Sink::y);
        Comparator<Sink> order =
                cutBefore % 2 == 0 ? byX.thenComparing(byY) : byY.thenComparing(byX);
        List<Sink> ordered = new ArrayList<>(row);
        ordered.sort(order.thenComparingInt(Sink::number));
        int half = (row.size() + 1) / 2;
        Node first = joinRow(ordered.subList(0, half), cutBefore + 1);
        Node rest = joinRow(ordered.subList(half, row.size()), cutBefore + 1);
        return addJoin(first, rest);
    }

    private Node addJoin(Node left, Node right) {
        Node join = new Node(nodes.size(), left, right);
        nodes.add(join);
        return join;
    }

    private Node root() {
        return nodes.get(nodes.size() - 1);
    }

    private int sourceU() {
        return 1024 * (sourceX + sourceY);
    }

    private int sourceV() {
        return 1024 * (sourceX - sourceY);
    }

    private int placeU(Node node) {
        return node.u.nearestTo(node.parent == null ? sourceU() : placeU(node.parent));
    }

    private int placeV(Node node) {
        return node.v.nearestTo(node.parent == null ? sourceV() : placeV(node.parent));
    }

    private int part(Node node, int part) {
        return switch (part) {
            case 0 -> numberOf(node.left);
            case 1 -> numberOf(node.right);
            case 2 -> numberOf(node.parent);
            case 3 -> node.u.low;
            case 4 -> node.u.high;
            case 5 -> node.v.low;
            case 6 -> node.v.high;
            case 7 -> node.time;
            case 8 -> node.wire;
            case 9 -> placeU(node);
            default -> placeV(node);
        };
    }

    private static int numberOf(Node node) {
        return node == null ? -1 : node.number;
    }

    private static int depth(Node node) {
        return node.parent == null ? 0 : 1 + depth(node.parent);
    }

    private boolean hasBuffer(Node node, int buffered) {
        return node.sink == null && (buffered & 1 << (node.number - sinks.size())) != 0;
    }

    private long bears(Node node, int buffered) {
        if (node.sink != null) {
            return 1024L * node.sink.load;
        }
        return shows(node.left, buffered) + (long) c * node.left.wire
                + shows(node.right, buffered) + (long) c * node.right.wire;
    }

    private long shows(Node node, int buffered) {
        return hasBuffer(node, buffered) ? 1024L * input : bears(node, buffered);
    }

    private long delay(Node node, int buffered) {
        long wire = node.wire;
        long sum = r * wire * (c * wire + 2 * shows(node, buffered));
        if (hasBuffer(node, buffered)) {
            sum += hold + 2L * drive * bears(node, buffered);
        }
        return node.parent == null ? sum : sum + delay(node.parent, buffered);
    }

    private long slack(int buffered) {
        return sinks.stream()
                .mapToLong(sink -> 1048576L * sink.need - delay(nodes.get(sink.number), buffered))
                .min().getAsLong();
    }

    /** Tried from the greatest number down, so that of several as good the least stays. */
    private int bestSetting() {
        int best = 0;
        long greatest = Long.MIN_VALUE;
        for (int tried = (1 << (sinks.size() - 1)) - 1; tried >= 0; tried--) {
            long reached = slack(tried);
            if (reached >= greatest) {
                greatest = reached;
                best = tried;
            }
        }
        return best;
    }
}
