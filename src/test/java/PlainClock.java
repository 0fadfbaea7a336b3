import java.util.ArrayList;
import java.util.Comparator;
import java.util.List;

/**
 * The document's Terms said a second time, as plainly as the whole library allows and with nothing
 * kept that can be worked out: what EvenClock is held against.
 */
final class PlainClock {
    /** A range of one coordinate. */
    record Range(int low, int high) {
        int gapTo(Range other) {
            if (high < other.low) {
                return other.low - high;
            }
            return other.high < low ? low - other.high : 0;
        }

        Range widened(int by) {
            return new Range(low - by, high + by);
        }

        Range shared(Range other) {
            return new Range(Math.max(low, other.low), Math.min(high, other.high));
        }

        int nearestTo(int wanted) {
            if (wanted < low) {
                return low;
            }
            return wanted > high ? high : wanted;
        }
    }

    /** A sink as told. */
    record Sink(int number, int x, int y, int load, int need) {
    }

    /** A node of the tree. */
    static final class Node {
        final int number;
        final Sink sink;
        final Node left;
        final Node right;
        final Range u;
        final Range v;
        final int time;
        Node parent;
        int wire;

        Node(Sink sink) {
            this.number = sink.number;
            this.sink = sink;
            this.left = null;
            this.right = null;
            this.u = new Range(1024 * (sink.x + sink.y), 1024 * (sink.x + sink.y));
            this.v = new Range(1024 * (sink.x - sink.y), 1024 * (sink.x - sink.y));
            this.time = 0;
        }

        Node(int number, Node left, Node right) {
            this.number = number;
            this.sink = null;
            this.left = left;
            this.right = right;
            int d = left.distance(right);
            if (left.time > d + right.time) {
                right.wire = left.time - right.time;
                left.wire = 0;
            } else if (right.time > d + left.time) {
                left.wire = right.time - left.time;
                right.wire = 0;
            } else {
                left.wire = (d + right.time - left.time) / 2;
                right.wire = d - left.wire;
            }
            this.u = left.u.widened(left.wire).shared(right.u.widened(right.wire));
            this.v = left.v.widened(left.wire).shared(right.v.widened(right.wire));
            this.time = left.time + left.wire;
            left.parent = this;
            right.parent = this;
        }

        int distance(Node other) {
            return Math.max(u.gapTo(other.u), v.gapTo(other.v));
        }
    }

    final List<Sink> sinks = new ArrayList<>();
    final List<Node> nodes = new ArrayList<>();
    int sourceX;
    int sourceY;
    int r = 1;
    int c = 1;
    int input = 1;
    int drive = 1;
    int hold;

    int build(int way) {
        nodes.clear();
        for (Sink sink : sinks) {
            nodes.add(new Node(sink));
        }
        if (way == 0) {
            joinNearest();
        } else {
            joinRow(sinks, 0);
        }
        root().wire = Math.max(Math.abs(placeU(root()) - sourceU()),
                Math.abs(placeV(root()) - sourceV()));
        return nodes.size();
    }

    private void joinNearest() {
        List<Node> free = new ArrayList<>(nodes);
        while (free.size() > 1) {
            List<Node[]> pairs = new ArrayList<>();
            for (Node a : free) {
                for (Node b : free) {
                    if (a.number < b.number) {
                        pairs.add(new Node[] {a, b});
                    }
                }
            }
            Comparator<Node[]> order = Comparator.comparingInt(p -> p[0].distance(p[1]));
            order = order.thenComparingInt(p -> p[0].number).thenComparingInt(p -> p[1].number);
            pairs.sort(order);
            Node[] chosen = pairs.get(0);
            free.remove(chosen[0]);
            free.remove(chosen[1]);
            free.add(addJoin(chosen[0], chosen[1]));
        }
    }

    private Node joinRow(List<Sink> row, int cutBefore) {
        if (row.size() == 1) {
            return nodes.get(row.get(0).number);
        }
        Comparator<Sink> byX = Comparator.comparingInt(Sink::x);
        Comparator<Sink> byY = Comparator.comparingInt(Sink::y);
        Comparator<Sink> order =
                cutBefore % 2 == 0 ? byX.thenComparing(byY) : byY.thenComparing(byX);
        List<Sink> ordered = new ArrayList<>(row);
        ordered.sort(order.thenComparingInt(Sink::number));
        int half = (row.size() + 1) / 2;
        Node first = joinRow(ordered.subList(0, half), cutBefore + 1);
        Node rest = joinRow(ordered.subList(half, row.size()), cutBefore + 1);
        return addJoin(first, rest);
    }

    private Node addJoin(Node left, Node right) {
        Node join = new Node(nodes.size(), left, right);
        nodes.add(join);
        return join;
    }

    private Node root() {
        return nodes.get(nodes.size() - 1);
    }

    private int sourceU() {
        return 1024 * (sourceX + sourceY);
    }

    private int sourceV() {
        return 1024 * (sourceX - sourceY);
    }

    int placeU(Node node) {
        return node.u.nearestTo(node.parent == null ? sourceU() : placeU(node.parent));
    }

    int placeV(Node node) {
        return node.v.nearestTo(node.parent == null ? sourceV() : placeV(node.parent));
    }

    int part(int k, int part) {
        Node node = nodes.get(k);
        return switch (part) {
            case 0 -> numberOf(node.left);
            case 1 -> numberOf(node.right);
            case 2 -> numberOf(node.parent);
            case 3 -> node.u.low;
            case 4 -> node.u.high;
            case 5 -> node.v.low;
            case 6 -> node.v.high;
            case 7 -> node.time;
            case 8 -> node.wire;
            case 9 -> placeU(node);
            default -> placeV(node);
        };
    }

    private static int numberOf(Node node) {
        return node == null ? -1 : node.number;
    }

    int length() {
        return nodes.stream().mapToInt(node -> node.wire).sum();
    }

    int depth(Node node) {
        return node.parent == null ? 0 : 1 + depth(node.parent);
    }

    private boolean hasBuffer(Node node, int setting) {
        return node.sink == null && (setting & 1 << (node.number - sinks.size())) != 0;
    }

    long bears(Node node, int setting) {
        if (node.sink != null) {
            return 1024L * node.sink.load;
        }
        return shows(node.left, setting) + (long) c * node.left.wire
                + shows(node.right, setting) + (long) c * node.right.wire;
    }

    long shows(Node node, int setting) {
        return hasBuffer(node, setting) ? 1024L * input : bears(node, setting);
    }

    long delay(Node node, int setting) {
        long wire = node.wire;
        long sum = r * wire * (c * wire + 2 * shows(node, setting));
        if (hasBuffer(node, setting)) {
            sum += hold + 2L * drive * bears(node, setting);
        }
        return node.parent == null ? sum : sum + delay(node.parent, setting);
    }

    long slack(int setting) {
        return sinks.stream()
                .mapToLong(sink -> 1048576L * sink.need - delay(nodes.get(sink.number), setting))
                .min().getAsLong();
    }

    int bestSetting() {
        int best = 0;
        for (int setting = (1 << (sinks.size() - 1)) - 1; setting >= 0; setting--) {
            if (slack(setting) >= slack(best)) {
                best = setting;
            }
        }
        return best;
    }
}
