import java.util.NoSuchElementException;

/**
 * A clock's tree over points of a plane, with wires as long to every sink, and buffers where they
 * help most. What each call must do stands in the document as numbered promises.
 */
public final class EvenClock {
    private static final int MOST_SINKS = 10;
    private static final int MOST_NODES = 2 * MOST_SINKS - 1;
    private static final int MOST_COORDINATE = 200;
    private static final int MOST_LOAD = 100;
    private static final int MOST_NEED = 1000000000;
    private static final int MOST_WIRE = 20;
    private static final int MOST_INPUT = 1000000;
    private static final int MOST_DRIVE = 1000;
    private static final int MOST_DELAY = 1000000000;

    private static final int WAY_NEAREST = 0;
    private static final int WAY_HALVES = 1;

    /** Fine enough that a tree of ten sinks can halve a length at each of its levels. */
    private static final int GRID = 1024;
    private static final long NEED_SCALE = 1048576L;

    // A node's parts bear the numbers by which the document asks for them.
    private static final int LEFT = 0;
    private static final int RIGHT = 1;
    private static final int PARENT = 2;
    private static final int U1 = 3;
    private static final int U2 = 4;
    private static final int V1 = 5;
    private static final int V2 = 6;
    private static final int TIME = 7;
    private static final int WIRE = 8;
    private static final int PLACE_U = 9;
    private static final int PLACE_V = 10;
    private static final int PARTS = 11;
    private static final int NO_NODE = -1;

    private final Pins pins;
    private final Tree tree;
    private final Circuit circuit;
    private int sourceX;
    private int sourceY;
    private int buffered;

    public EvenClock() {
        pins = new Pins();
        tree = new Tree();
        circuit = new Circuit();
    }

    public int sink(int x, int y, int load, int need)
            throws IllegalArgumentException, UnsupportedOperationException {
        if (!isPoint(x, y) || !within(load, 1, MOST_LOAD) || !within(need, 0, MOST_NEED)) {
            throw new IllegalArgumentException("a sink out of its limits");
        }
        if (pins.count >= MOST_SINKS) {
            throw new UnsupportedOperationException("there are ten sinks");
        }
        tree.fell();
        return pins.append(x, y, load, need);
    }

    public void cut(int n) throws IllegalArgumentException {
        if (!within(n, 0, pins.count)) {
            throw new IllegalArgumentException("there are not so many sinks");
        }
        tree.fell();
        pins.count = n;
    }

    public void source(int x, int y) throws IllegalArgumentException {
        if (!isPoint(x, y)) {
            throw new IllegalArgumentException("a source out of its limits");
        }
        tree.fell();
        sourceX = x;
        sourceY = y;
    }

    public void wires(int r, int c) throws IllegalArgumentException {
        if (!within(r, 1, MOST_WIRE) || !within(c, 1, MOST_WIRE)) {
            throw new IllegalArgumentException("wires out of their limits");
        }
        circuit.resistance = r;
        circuit.capacity = c;
    }

    public void buffer(int input, int drive, int delay) throws IllegalArgumentException {
        if (!within(input, 1, MOST_INPUT) || !within(drive, 1, MOST_DRIVE)
                || !within(delay, 0, MOST_DELAY)) {
            throw new IllegalArgumentException("a buffer out of its limits");
        }
        circuit.bufferInput = input;
        circuit.bufferDrive = drive;
        circuit.bufferDelay = delay;
    }

    public int sinks() {
        return pins.count;
    }

    public int build(int way) throws IllegalArgumentException, NoSuchElementException {
        if (way != WAY_NEAREST && way != WAY_HALVES) {
            throw new IllegalArgumentException("no such way");
        }
        if (pins.count == 0) {
            throw new NoSuchElementException("there is no sink");
        }
        tree.plant(pins);
        if (way == WAY_NEAREST) {
            tree.joinNearest();
        } else {
            tree.joinHalves(pins);
        }
        tree.choosePlaces(gridU(sourceX, sourceY), gridV(sourceX, sourceY));
        buffered = 0;
        return tree.nodes;
    }

    public int node(int k, int part) throws IllegalStateException, IndexOutOfBoundsException {
        requireTree();
        requireIndex(k, 0, tree.nodes);
        requireIndex(part, 0, PARTS);
        return tree.part[k][part];
    }

    public int length() throws IllegalStateException {
        requireTree();
        return tree.wireSum();
    }

    public int depth(int sink) throws IllegalStateException, IndexOutOfBoundsException {
        requireTree();
        requireIndex(sink, 0, tree.leaves);
        return tree.joinsAbove(sink);
    }

    public boolean set(int join, boolean on)
            throws IllegalStateException, IndexOutOfBoundsException {
        requireTree();
        requireIndex(join, tree.leaves, tree.nodes);
        int before = buffered;
        int bit = 1 << (join - tree.leaves);
        buffered = on ? before | bit : before & ~bit;
        return buffered != before;
    }

    public int setting() throws IllegalStateException {
        requireTree();
        return buffered;
    }

    public long load(int node, boolean shown)
            throws IllegalStateException, IndexOutOfBoundsException {
        requireTree();
        requireIndex(node, 0, tree.nodes);
        circuit.measure(tree, pins, buffered);
        return shown ? circuit.shows[node] : circuit.bears[node];
    }

    public long delay(int sink) throws IllegalStateException, IndexOutOfBoundsException {
        requireTree();
        requireIndex(sink, 0, tree.leaves);
        circuit.measure(tree, pins, buffered);
        return circuit.arrival[sink];
    }

    public long slack() throws IllegalStateException {
        requireTree();
        return circuit.leastSlack(tree, pins, buffered);
    }

    public long best() throws IllegalStateException {
        requireTree();
        return circuit.leastSlack(tree, pins, circuit.bestSetting(tree, pins));
    }

    public int improve() throws IllegalStateException {
        requireTree();
        buffered = circuit.bestSetting(tree, pins);
        return buffered;
    }

    private void requireTree() {
        if (tree.nodes == 0) {
            throw new IllegalStateException("there is no tree");
        }
    }

    private static void requireIndex(int index, int first, int end) {
        if (index < first || index >= end) {
            throw new IndexOutOfBoundsException("there is none of this number");
        }
    }

    private static boolean isPoint(int x, int y) {
        return within(x, 0, MOST_COORDINATE) && within(y, 0, MOST_COORDINATE);
    }

    private static boolean within(int value, int least, int most) {
        return value >= least && value <= most;
    }

    private static int gridU(int x, int y) {
        return GRID * (x + y);
    }

    private static int gridV(int x, int y) {
        return GRID * (x - y);
    }

    /** The sinks as they were told. */
    private static final class Pins {
        final int[] x = new int[MOST_SINKS];
        final int[] y = new int[MOST_SINKS];
        final int[] charge = new int[MOST_SINKS];
        final int[] need = new int[MOST_SINKS];
        int count;

        int append(int atX, int atY, int ownCharge, int ownNeed) {
            int number = count;
            x[number] = atX;
            y[number] = atY;
            charge[number] = ownCharge;
            need[number] = ownNeed;
            count = number + 1;
            return number;
        }

        boolean comesBefore(int a, int b, boolean byX) {
            int order = byX ? Integer.compare(x[a], x[b]) : Integer.compare(y[a], y[b]);
            if (order == 0) {
                order = byX ? Integer.compare(y[a], y[b]) : Integer.compare(x[a], x[b]);
            }
            return order == 0 ? a < b : order < 0;
        }
    }

    /** The nodes with their regions, times, wires and places; without nodes there is no tree. */
    private static final class Tree {
        final int[][] part = new int[MOST_NODES][PARTS];
        private final int[] row = new int[MOST_SINKS];
        int leaves;
        int nodes;

        void fell() {
            leaves = 0;
            nodes = 0;
        }

        void plant(Pins pins) {
            leaves = pins.count;
            nodes = pins.count;
            for (int k = 0; k < leaves; k++) {
                int u = gridU(pins.x[k], pins.y[k]);
                int v = gridV(pins.x[k], pins.y[k]);
                row[k] = k;
                bear(k, NO_NODE, NO_NODE, 0);
                layRegion(k, u, u, v, v);
            }
        }

        void joinNearest() {
            for (int made = 1; made < leaves; made++) {
                joinNearestPair();
            }
        }

        private void joinNearestPair() {
            int left = NO_NODE;
            int right = NO_NODE;
            int least = Integer.MAX_VALUE;
            for (int a = 0; a < nodes; a++) {
                for (int b = a + 1; b < nodes; b++) {
                    if (isFree(a) && isFree(b) && distance(a, b) < least) {
                        least = distance(a, b);
                        left = a;
                        right = b;
                    }
                }
            }
            if (left != NO_NODE) {
                join(left, right);
            }
        }

        private boolean isFree(int k) {
            return part[k][PARENT] == NO_NODE;
        }

        void joinHalves(Pins pins) {
            joinRow(this, pins, 0, leaves, 0);
        }

        /** Ten sinks are cut four times at most; the bound on the cuts only guards the depth. */
        private static int joinRow(Tree tree, Pins pins, int from, int end, int cuts) {
            if (end - from <= 1 || cuts >= MOST_SINKS) {
                return tree.row[from];
            }
            tree.orderRow(pins, from, end, cuts % 2 == 0);
            int middle = from + (end - from + 1) / 2;
            int left = joinRow(tree, pins, from, middle, cuts + 1);
            int right = joinRow(tree, pins, middle, end, cuts + 1);
            return tree.join(left, right);
        }

        private void orderRow(Pins pins, int from, int end, boolean byX) {
            for (int i = from + 1; i < end; i++) {
                int moved = row[i];
                int to = i;
                while (to > from && pins.comesBefore(moved, row[to - 1], byX)) {
                    row[to] = row[to - 1];
                    to--;
                }
                row[to] = moved;
            }
        }

        private int join(int a, int b) {
            int d = distance(a, b);
            int s = part[a][TIME];
            int t = part[b][TIME];
            int aboveA;
            int aboveB;
            if (s > d + t) {
                aboveA = 0;
                aboveB = s - t;
            } else if (t > d + s) {
                aboveA = t - s;
                aboveB = 0;
            } else {
                aboveA = (d + t - s) / 2;
                aboveB = d - aboveA;
            }
            int made = nodes;
            nodes = made + 1;
            hang(a, made, aboveA);
            hang(b, made, aboveB);
            bear(made, a, b, s + aboveA);
            layRegion(made,
                    Math.max(part[a][U1] - aboveA, part[b][U1] - aboveB),
                    Math.min(part[a][U2] + aboveA, part[b][U2] + aboveB),
                    Math.max(part[a][V1] - aboveA, part[b][V1] - aboveB),
                    Math.min(part[a][V2] + aboveA, part[b][V2] + aboveB));
            return made;
        }

        private void bear(int k, int left, int right, int time) {
            part[k][LEFT] = left;
            part[k][RIGHT] = right;
            part[k][PARENT] = NO_NODE;
            part[k][TIME] = time;
        }

        private void hang(int k, int parent, int wire) {
            part[k][PARENT] = parent;
            part[k][WIRE] = wire;
        }

        private void layRegion(int k, int u1, int u2, int v1, int v2) {
            part[k][U1] = u1;
            part[k][U2] = u2;
            part[k][V1] = v1;
            part[k][V2] = v2;
        }

        private int distance(int a, int b) {
            int alongU = gap(part[a][U1], part[a][U2], part[b][U1], part[b][U2]);
            int alongV = gap(part[a][V1], part[a][V2], part[b][V1], part[b][V2]);
            return Math.max(alongU, alongV);
        }

        private static int gap(int low1, int high1, int low2, int high2) {
            return Math.max(0, Math.max(low2 - high1, low1 - high2));
        }

        /** A parent has a greater number than its children, so going down it is placed before. */
        void choosePlaces(int sourceU, int sourceV) {
            for (int k = nodes - 1; k >= 0; k--) {
                int parent = part[k][PARENT];
                if (parent == NO_NODE) {
                    standNearest(k, sourceU, sourceV);
                    part[k][WIRE] = wayFrom(k, sourceU, sourceV);
                } else {
                    standNearest(k, part[parent][PLACE_U], part[parent][PLACE_V]);
                }
            }
        }

        private int wayFrom(int k, int u, int v) {
            return Math.max(Math.abs(part[k][PLACE_U] - u), Math.abs(part[k][PLACE_V] - v));
        }

        private void standNearest(int k, int u, int v) {
            part[k][PLACE_U] = nearest(part[k][U1], part[k][U2], u);
            part[k][PLACE_V] = nearest(part[k][V1], part[k][V2], v);
        }

        private static int nearest(int low, int high, int wanted) {
            return Math.max(low, Math.min(high, wanted));
        }

        int wireSum() {
            int sum = 0;
            for (int k = 0; k < nodes; k++) {
                sum += part[k][WIRE];
            }
            return sum;
        }

        int joinsAbove(int leaf) {
            int joins = 0;
            int above = part[leaf][PARENT];
            for (int step = 0; step < nodes && above != NO_NODE; step++) {
                joins++;
                above = part[above][PARENT];
            }
            return joins;
        }
    }

    /** The tree with wires. Its rows hold what was measured last and are filled anew each time. */
    private static final class Circuit {
        final long[] bears = new long[MOST_NODES];
        final long[] shows = new long[MOST_NODES];
        final long[] arrival = new long[MOST_NODES];
        long resistance = 1;
        long capacity = 1;
        long bufferInput = 1;
        long bufferDrive = 1;
        long bufferDelay = 0;

        void measure(Tree tree, Pins pins, int setting) {
            measureLoads(tree, pins, setting);
            measureArrivals(tree, setting);
        }

        /** Children have lesser numbers than their join: it is complete when its turn comes. */
        private void measureLoads(Tree tree, Pins pins, int setting) {
            for (int k = 0; k < tree.nodes; k++) {
                bears[k] = k < tree.leaves ? (long) GRID * pins.charge[k] : 0;
            }
            for (int k = 0; k < tree.nodes; k++) {
                shows[k] = hasBuffer(tree, k, setting) ? GRID * bufferInput : bears[k];
                int parent = tree.part[k][PARENT];
                if (parent != NO_NODE) {
                    bears[parent] += shows[k] + capacity * tree.part[k][WIRE];
                }
            }
        }

        private void measureArrivals(Tree tree, int setting) {
            for (int k = tree.nodes - 1; k >= 0; k--) {
                int parent = tree.part[k][PARENT];
                long sum = parent == NO_NODE ? 0 : arrival[parent];
                sum += wireDelay(tree, k);
                if (hasBuffer(tree, k, setting)) {
                    sum += bufferDelay + 2 * bufferDrive * bears[k];
                }
                arrival[k] = sum;
            }
        }

        private long wireDelay(Tree tree, int k) {
            long wire = tree.part[k][WIRE];
            return resistance * wire * (capacity * wire + 2 * shows[k]);
        }

        private static boolean hasBuffer(Tree tree, int k, int setting) {
            return k >= tree.leaves && (setting >> (k - tree.leaves) & 1) == 1;
        }

        long leastSlack(Tree tree, Pins pins, int setting) {
            measure(tree, pins, setting);
            long least = Long.MAX_VALUE;
            for (int k = 0; k < tree.leaves; k++) {
                least = Math.min(least, NEED_SCALE * pins.need[k] - arrival[k]);
            }
            return least;
        }

        int bestSetting(Tree tree, Pins pins) {
            int settings = 1 << (tree.nodes - tree.leaves);
            int best = 0;
            long greatest = leastSlack(tree, pins, 0);
            for (int setting = 1; setting < settings; setting++) {
                long reached = leastSlack(tree, pins, setting);
                if (reached > greatest) {
                    greatest = reached;
                    best = setting;
                }
            }
            return best;
        }
    }
}
