import java.util.ArrayList;
import java.util.Comparator;
import java.util.List;
import java.util.function.Consumer;

/**
 * The document's sentences from its first line to the tree's places, lengths and depths, in their
 * order and in their words, each held against what clocks answer for many trees. Nothing is built a
 * second time here: it is asked whether the answers are such as the sentence says.
 */
public final class SentencesTest {
    private static final Check CHECK = new Check("SentencesTest");
    private static final List<Grown> FOREST = Grown.forest(2000);

    private static final int LEFT = 0;
    private static final int RIGHT = 1;
    private static final int PARENT = 2;
    private static final int U1 = 3;
    private static final int U2 = 4;
    private static final int V1 = 5;
    private static final int V2 = 6;
    private static final int TIME = 7;
    private static final int WIRE = 8;
    private static final int PLACE_U = 9;
    private static final int PLACE_V = 10;

    public static void main(String[] args) {
        whatItIs();
        sinksAndSource();
        placesAndDistances();
        numbersOfNodes();
        toJoin();
        ways();
        places();
        lengthsAndDepths();
        CHECK.end();
    }

    private static void holds(String sentence, Consumer<Grown> look) {
        CHECK.about(sentence);
        for (Grown grown : FOREST) {
            look.accept(grown);
        }
    }

    private static void ofJoins(String sentence, Consumer<Joined> look) {
        holds(sentence, grown -> {
            for (int join = grown.sinks; join < grown.nodes.length; join++) {
                look.accept(new Joined(grown, join));
            }
        });
    }

    /** A join with its two children. */
    private static final class Joined {
        final String name;
        final int[] join;
        final int[] a;
        final int[] b;
        final int d;
        final int s;
        final int t;

        Joined(Grown grown, int number) {
            name = grown.name + ", join " + number;
            join = grown.nodes[number];
            a = grown.nodes[join[LEFT]];
            b = grown.nodes[join[RIGHT]];
            d = distance(a, b);
            s = a[TIME];
            t = b[TIME];
        }
    }

    private static int distance(int[] a, int[] b) {
        return Math.max(leastDifference(a[U1], a[U2], b[U1], b[U2]),
                leastDifference(a[V1], a[V2], b[V1], b[V2]));
    }

    /** Of one number of each range; the ends are enough, since between them none is nearer. */
    private static int leastDifference(int low1, int high1, int low2, int high2) {
        int[] ends = {low1, high1, low2, high2};
        int least = Integer.MAX_VALUE;
        for (int one : ends) {
            for (int other : ends) {
                boolean inside = one >= low1 && one <= high1 && other >= low2 && other <= high2;
                least = inside ? Math.min(least, Math.abs(one - other)) : least;
            }
        }
        return least;
    }

    private static void whatItIs() {
        holds("What it is, sinks are joined two by two so that the wire from where they are joined"
                + " is as long to every sink", grown -> {
            for (int sink = 0; sink < grown.sinks; sink++) {
                int wire = 0;
                for (int k = sink; k != -1; k = grown.nodes[k][PARENT]) {
                    CHECK.same(grown.name + ": wire from " + k + " to " + sink,
                            grown.nodes[k][TIME], wire);
                    wire += grown.nodes[k][WIRE];
                }
            }
        });
        CHECK.about("What it is, An object is used for at most 512 calls after it has been made");
        EvenClock clock = Clocks.manyBuilt(10, 0);
        long best = clock.best();
        int setting = clock.improve();
        for (int call = 13; call < 512; call += 2) {
            CHECK.same("best, call " + (call + 1), best, clock.best());
            int answer = call + 1 < 512 ? clock.improve() : setting;
            CHECK.same("improve, call " + (call + 2), setting, answer);
        }
    }

    private static void sinksAndSource() {
        CHECK.about("Terms, SINKS are numbered 0, 1, .. , at most 10");
        EvenClock clock = new EvenClock();
        for (int k = 0; k < 10; k++) {
            CHECK.same("sink", k, clock.sink(k, 0, 1, 0));
        }
        CHECK.fails("sink 10", Due.UNSUPPORTED, () -> clock.sink(10, 0, 1, 0));
        CHECK.about("Terms, A sink has x and y, a LOAD and a NEED");
        for (int k = 0; k < 10; k++) {
            EvenClock one = new EvenClock();
            one.source(20 * k, 7 * k);
            one.sink(20 * k, 7 * k, 10 * k + 1, 1000 * k);
            one.build(0);
            CHECK.same("x and y of " + k + ", where the source is", 0, one.length());
            CHECK.same("load of " + k, 1024 * (10 * k + 1), one.load(0, false));
            CHECK.same("need of " + k, 1048576L * 1000 * k, one.slack());
        }
        CHECK.about("Terms, The SOURCE has x and y (0 .. 200), at first both 0");
        for (Grown grown : FOREST) {
            EvenClock at = grown.again();
            at.source(0, 0);
            at.build(grown.way);
            EvenClock first = new EvenClock();
            for (int k = 0; k < grown.sinks; k++) {
                first.sink(grown.x[k], grown.y[k], grown.load[k], grown.need[k]);
            }
            first.build(grown.way);
            CHECK.same(grown.name + ": length", at.length(), first.length());
        }
    }

    private static void placesAndDistances() {
        holds("Terms, All places are told by U and V: of x and y these are 1024 * (x + y) and"
                + " 1024 * (x - y)", grown -> {
            for (int k = 0; k < grown.sinks; k++) {
                int[] sink = grown.nodes[k];
                CHECK.same(grown.name + ": u of " + k, 1024 * (grown.x[k] + grown.y[k]),
                        sink[PLACE_U]);
                CHECK.same(grown.name + ": v of " + k, 1024 * (grown.x[k] - grown.y[k]),
                        sink[PLACE_V]);
            }
        });
        distanceOfPlaces();
        regionIsAllPlaces();
        ofJoins("Terms, The distance of two regions is the least one of two of their places", j -> {
            boolean detour = Math.abs(j.s - j.t) > j.d;
            CHECK.same(j.name + ": wires", detour ? Math.abs(j.s - j.t) : j.d,
                    j.a[WIRE] + j.b[WIRE]);
        });
        nearestPlaces();
    }

    // The root's region is u 7168 and v -1024 to 3072; with y mirrored, u and v change about.
    private static void nearestPlaces() {
        CHECK.about("Terms, The place of a region NEAREST to a place has the u of U1 .. U2 nearest"
                + " to its u, the v of V1 .. V2 nearest to its v");
        int[][] sources = {
            {0, 0, 0}, {0, 1, -1024}, {0, 2, -1024}, {1, 0, 1024}, {3, 0, 3072}, {4, 0, 3072},
            {4, 3, 1024}, {3, 4, -1024}, {2, 5, -1024}, {5, 2, 3072}, {9, 9, 0}, {9, 5, 3072},
        };
        for (int[] source : sources) {
            EvenClock clock = Clocks.of(2, 2, 6, 4);
            clock.source(source[0], source[1]);
            clock.build(0);
            String from = "from " + source[0] + ", " + source[1];
            CHECK.same(from + ": u", 7168, clock.node(2, PLACE_U));
            CHECK.same(from + ": v", source[2], clock.node(2, PLACE_V));
            EvenClock mirrored = Clocks.of(2, 7, 6, 5);
            mirrored.source(source[0], 9 - source[1]);
            mirrored.build(0);
            CHECK.same(from + ", mirrored: u", source[2] + 9216, mirrored.node(2, PLACE_U));
            CHECK.same(from + ", mirrored: v", -2048, mirrored.node(2, PLACE_V));
        }
    }

    private static void distanceOfPlaces() {
        CHECK.about("Terms, The DISTANCE of two places is the greater of the differences of their"
                + " us and of their vs (without sign)");
        CHECK.same("u the greater", 8192, wireBetween(0, 0, 3, 5));
        CHECK.same("u the greater, less", 399360, wireBetween(200, 200, 5, 5));
        CHECK.same("v the greater", 11264, wireBetween(10, 1, 3, 5));
        CHECK.same("v the greater, less", 11264, wireBetween(3, 5, 10, 1));
        CHECK.same("both the same", 4096, wireBetween(3, 9, 3, 5));
        CHECK.same("none", 0, wireBetween(3, 5, 3, 5));
        CHECK.about("Terms, That is 1024 times the way along lines of the grid");
        int[] steps = {0, 1, 2, 7, 100, 199, 200};
        for (int x : steps) {
            for (int y : steps) {
                for (int toX : steps) {
                    for (int toY : steps) {
                        int way = Math.abs(x - toX) + Math.abs(y - toY);
                        CHECK.same("from " + x + ", " + y + " to " + toX + ", " + toY,
                                1024 * way, wireBetween(x, y, toX, toY));
                    }
                }
            }
        }
    }

    private static int wireBetween(int sourceX, int sourceY, int x, int y) {
        EvenClock clock = Clocks.of(x, y);
        clock.source(sourceX, sourceY);
        clock.build(0);
        return clock.length();
    }

    /** Places of the region have no wire from the source to the root, all others have one. */
    private static void regionIsAllPlaces() {
        CHECK.about("Terms, A REGION is all places with u from U1 to U2 and v from V1 to V2");
        EvenClock clock = Clocks.of(2, 2, 6, 5);
        for (int x = 0; x <= 9; x++) {
            for (int y = 0; y <= 9; y++) {
                clock.source(x, y);
                clock.build(0);
                // u is 4096 and 11264, v 0 and 1024: the middle's u is 7680, between two places.
                CHECK.that("place " + x + ", " + y, clock.node(2, WIRE) > 0);
            }
        }
        EvenClock even = Clocks.of(2, 2, 6, 4);
        for (int x = 0; x <= 9; x++) {
            for (int y = 0; y <= 9; y++) {
                even.source(x, y);
                even.build(0);
                boolean inside = x + y == 7 && x - y >= -1 && x - y <= 3;
                CHECK.that("place " + x + ", " + y, inside == (even.node(2, WIRE) == 0));
            }
        }
    }

    /** The join's region are the places in both widened ones, so at and beside all their ends. */
    private static void inBoth(Joined j, int low, int high) {
        int a1 = j.a[low] - j.a[WIRE];
        int a2 = j.a[high] + j.a[WIRE];
        int b1 = j.b[low] - j.b[WIRE];
        int b2 = j.b[high] + j.b[WIRE];
        for (int end : new int[] {a1, a2, b1, b2}) {
            for (int at = end - 1; at <= end + 1; at++) {
                boolean due = at >= a1 && at <= a2 && at >= b1 && at <= b2;
                CHECK.that(j.name + ": part " + low + " at " + at,
                        due == (at >= j.join[low] && at <= j.join[high]));
            }
        }
    }

    private static void numbersOfNodes() {
        holds("Terms, of n sinks 0 .. n - 1 are the sinks themselves, the others JOINS,"
                + " n .. 2n - 2", grown -> {
            CHECK.same(grown.name + ": nodes", 2 * grown.sinks - 1,
                    grown.again().build(grown.way));
            for (int k = 0; k < grown.nodes.length; k++) {
                boolean childless = grown.nodes[k][LEFT] == -1 && grown.nodes[k][RIGHT] == -1;
                CHECK.that(grown.name + ": children of " + k, childless == k < grown.sinks);
            }
        });
        holds("Terms, in the order in which they are made", grown -> {
            for (int k = grown.sinks; k < grown.nodes.length; k++) {
                CHECK.that(grown.name + ": " + k + " was made after its children",
                        grown.nodes[k][LEFT] < k && grown.nodes[k][RIGHT] < k);
            }
        });
        holds("Terms, the last one is the ROOT (of one sink that itself)", grown -> {
            int[] seen = new int[grown.nodes.length];
            for (int k = grown.sinks; k < grown.nodes.length; k++) {
                for (int side = LEFT; side <= RIGHT; side++) {
                    int child = grown.nodes[k][side];
                    seen[child]++;
                    CHECK.same(grown.name + ": parent of " + child, k, grown.nodes[child][PARENT]);
                }
            }
            for (int k = 0; k < grown.nodes.length; k++) {
                boolean root = k == grown.root();
                CHECK.same(grown.name + ": times that " + k + " is a child", root ? 0 : 1, seen[k]);
                CHECK.that(grown.name + ": parent of " + k, root == (grown.nodes[k][PARENT] == -1));
            }
        });
        holds("Terms, A node has a region and a TIME: of a sink its place alone, and 0", grown -> {
            for (int k = 0; k < grown.sinks; k++) {
                int[] sink = grown.nodes[k];
                CHECK.that(grown.name + ": region of " + k,
                        sink[U1] == sink[PLACE_U] && sink[U2] == sink[PLACE_U]
                        && sink[V1] == sink[PLACE_V] && sink[V2] == sink[PLACE_V]);
                CHECK.same(grown.name + ": time of " + k, 0, sink[TIME]);
            }
        });
    }

    private static void toJoin() {
        int[] cases = new int[3];
        ofJoins("Terms, If s is greater than d + t, the wire above a has length 0, that above b"
                + " s - t", j -> {
            if (j.s > j.d + j.t) {
                cases[0]++;
                wires(j, 0, j.s - j.t);
            }
        });
        ofJoins("Terms, if t is greater than d + s, the one above b 0, that above a t - s", j -> {
            if (j.t > j.d + j.s) {
                cases[1]++;
                wires(j, j.t - j.s, 0);
            }
        });
        ofJoins("Terms, else that above a has (d + t - s) / 2 (which is a whole number), that"
                + " above b the rest of d", j -> {
            if (j.s <= j.d + j.t && j.t <= j.d + j.s) {
                cases[2]++;
                CHECK.same(j.name + ": twice the wire above a", j.d + j.t - j.s, 2 * j.a[WIRE]);
                CHECK.same(j.name + ": both wires", j.d, j.a[WIRE] + j.b[WIRE]);
            }
        });
        ofJoins("Terms, The join's region are the places that are in the regions of both, each"
                + " WIDENED by the length of its wire: U1 and V1 less by e, U2 and V2 greater by e",
                j -> {
            inBoth(j, U1, U2);
            inBoth(j, V1, V2);
        });
        ofJoins("Terms, its time is s and the length above a",
                j -> CHECK.same(j.name + ": time", j.s + j.a[WIRE], j.join[TIME]));
        for (int seen : cases) {
            CHECK.that("each of the three comes up, one " + seen + " times", seen >= 20);
        }
    }

    private static void wires(Joined j, int aboveA, int aboveB) {
        CHECK.same(j.name + ": wire above a", aboveA, j.a[WIRE]);
        CHECK.same(j.name + ": wire above b", aboveB, j.b[WIRE]);
    }

    private static void ways() {
        holds("Terms, BY WAY 0 two of these with the least distance of their regions are joined, of"
                + " several pairs the one whose lesser number is least, then the other one; the"
                + " lesser number is left", grown -> {
            if (grown.way == 0) {
                for (int join = grown.sinks; join < grown.nodes.length; join++) {
                    nearestOfFree(grown, join);
                }
            }
        });
        holds("Terms, BY WAY 1 the first half of them (the greater one, if they are odd) is cut and"
                + " joined, then the rest, then both joined, the first half left", grown -> {
            if (grown.way == 1) {
                List<Integer> all = new ArrayList<>();
                for (int k = 0; k < grown.sinks; k++) {
                    all.add(k);
                }
                int next = cutAndJoined(grown, all, 0, grown.root(), grown.sinks);
                CHECK.same(grown.name + ": joins", grown.nodes.length, next);
            }
        });
    }

    /** Free when the join was made are those with a lesser number whose parent is not made yet. */
    private static void nearestOfFree(Grown grown, int join) {
        int left = grown.nodes[join][LEFT];
        int right = grown.nodes[join][RIGHT];
        CHECK.that(grown.name + ": left of " + join, left < right);
        int least = distance(grown.nodes[left], grown.nodes[right]);
        for (int a = 0; a < join; a++) {
            for (int b = a + 1; b < join; b++) {
                if (isFree(grown, a, join) && isFree(grown, b, join)) {
                    int d = distance(grown.nodes[a], grown.nodes[b]);
                    boolean before = a < left || a == left && b < right;
                    CHECK.that(grown.name + ": " + a + " and " + b + " were to be joined at "
                            + join, before ? d > least : d >= least);
                }
            }
        }
    }

    private static boolean isFree(Grown grown, int k, int join) {
        int parent = grown.nodes[k][PARENT];
        return parent == -1 || parent >= join;
    }

    /** Answers the number of the next join that is made behind those of the row. */
    private static int cutAndJoined(Grown grown, List<Integer> row, int cuts, int node, int next) {
        if (row.size() == 1) {
            CHECK.same(grown.name + ": one sink is itself", row.get(0), node);
            return next;
        }
        Comparator<Integer> byX = Comparator.comparingInt(k -> grown.x[k]);
        Comparator<Integer> byY = Comparator.comparingInt(k -> grown.y[k]);
        List<Integer> ordered = new ArrayList<>(row);
        ordered.sort(cuts % 2 == 0
                ? byX.thenComparing(byY).thenComparing(Comparator.naturalOrder())
                : byY.thenComparing(byX).thenComparing(Comparator.naturalOrder()));
        int half = (row.size() + 1) / 2;
        int behindFirst = cutAndJoined(grown, ordered.subList(0, half), cuts + 1,
                grown.nodes[node][LEFT], next);
        int behindRest = cutAndJoined(grown, ordered.subList(half, row.size()), cuts + 1,
                grown.nodes[node][RIGHT], behindFirst);
        CHECK.same(grown.name + ": both halves' join", behindRest, node);
        return behindRest + 1;
    }

    private static void places() {
        holds("Terms, PLACES: the root stands at the place of its region nearest to the source",
                grown -> nearest(grown, grown.root(), grown.sourceU(), grown.sourceV()));
        holds("Terms, PLACES: any other node at that of its region nearest to where its parent"
                + " stands", grown -> {
            for (int k = 0; k < grown.root(); k++) {
                int[] parent = grown.nodes[grown.nodes[k][PARENT]];
                nearest(grown, k, parent[PLACE_U], parent[PLACE_V]);
            }
        });
        holds("Terms, The wire above the root is as long as it is from the source", grown -> {
            int[] root = grown.nodes[grown.root()];
            CHECK.same(grown.name + ": wire above the root", Math.max(
                    Math.abs(root[PLACE_U] - grown.sourceU()),
                    Math.abs(root[PLACE_V] - grown.sourceV())), root[WIRE]);
        });
    }

    private static void nearest(Grown grown, int k, int u, int v) {
        int[] node = grown.nodes[k];
        nearest(grown.name + ": u of " + k, node[U1], node[U2], u, node[PLACE_U]);
        nearest(grown.name + ": v of " + k, node[V1], node[V2], v, node[PLACE_V]);
    }

    private static void nearest(String what, int low, int high, int wanted, int got) {
        CHECK.that(what + " is in the region", low <= got && got <= high);
        for (int other : new int[] {low, high, wanted}) {
            boolean inside = low <= other && other <= high;
            CHECK.that(what + " is " + got + ", " + other + " is nearer", !inside
                    || other == got || Math.abs(other - wanted) > Math.abs(got - wanted));
        }
    }

    private static void lengthsAndDepths() {
        holds("10, The sum of the lengths of all wires", grown -> {
            int sum = 0;
            for (int[] node : grown.nodes) {
                sum += node[WIRE];
            }
            CHECK.same(grown.name + ": length", sum, grown.again().length());
        });
        holds("11, How many joins are above a sink", grown -> {
            EvenClock clock = grown.again();
            for (int sink = 0; sink < grown.sinks; sink++) {
                int joins = 0;
                for (int join = grown.sinks; join < grown.nodes.length; join++) {
                    joins += isBelow(grown, sink, join) ? 1 : 0;
                }
                CHECK.same(grown.name + ": depth of " + sink, joins, clock.depth(sink));
            }
        });
    }

    private static boolean isBelow(Grown grown, int sink, int node) {
        return node == sink || node >= grown.sinks && (isBelow(grown, sink, grown.nodes[node][LEFT])
                || isBelow(grown, sink, grown.nodes[node][RIGHT]));
    }
}
