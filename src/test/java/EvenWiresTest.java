import java.util.Random;

/** What the tree is for: as much wire to every sink, and enough of it to reach each place. */
public final class EvenWiresTest {
    private static final Check CHECK = new Check("EvenWiresTest");
    private static final int TREES = 4000;
    private static final int PARTS = 11;

    public static void main(String[] args) {
        for (int tree = 0; tree < TREES; tree++) {
            Random random = new Random(tree);
            EvenClock clock = scattered(random);
            clock.build(tree % 2);
            look("tree " + tree, clock.sinks(), partsOf(clock));
        }
        CHECK.end();
    }

    private static EvenClock scattered(Random random) {
        EvenClock clock = new EvenClock();
        int field = new int[] {2, 12, 60, 201}[random.nextInt(4)];
        int sinks = 1 + random.nextInt(10);
        for (int k = 0; k < sinks; k++) {
            clock.sink(random.nextInt(field), random.nextInt(field), 1, 0);
        }
        clock.source(random.nextInt(201), random.nextInt(201));
        return clock;
    }

    private static int[][] partsOf(EvenClock clock) {
        int[][] nodes = new int[2 * clock.sinks() - 1][PARTS];
        for (int k = 0; k < nodes.length; k++) {
            for (int part = 0; part < PARTS; part++) {
                nodes[k][part] = clock.node(k, part);
            }
        }
        return nodes;
    }

    private static void look(String tree, int sinks, int[][] nodes) {
        int root = nodes.length - 1;
        CHECK.about("What it is, the wire from where they are joined is as long to every sink");
        for (int join = sinks; join <= root; join++) {
            for (int side = 0; side <= 1; side++) {
                int[] child = nodes[nodes[join][side]];
                CHECK.same(tree + ": wire from " + join, nodes[join][7], child[7] + child[8]);
                CHECK.same(tree + ": parent of " + join + "'s child", join, child[2]);
            }
        }
        for (int sink = 0; sink < sinks; sink++) {
            CHECK.same(tree + ": time of " + sink, 0, nodes[sink][7]);
        }
        CHECK.about("Terms, PLACES, which wires reach");
        for (int[] node : nodes) {
            CHECK.that(tree + ": a region is empty", node[3] <= node[4] && node[5] <= node[6]);
            CHECK.that(tree + ": a place is outside its region", node[3] <= node[9]
                    && node[9] <= node[4] && node[5] <= node[10] && node[10] <= node[6]);
            if (node[2] != -1) {
                int[] parent = nodes[node[2]];
                int alongU = Math.abs(node[9] - parent[9]);
                int alongV = Math.abs(node[10] - parent[10]);
                CHECK.that(tree + ": a wire is too short", Math.max(alongU, alongV) <= node[8]);
            }
        }
    }
}
