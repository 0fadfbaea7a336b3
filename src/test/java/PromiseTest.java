/** Each promise with answers worked out by hand, at its edges, and with wrong inputs. */
public final class PromiseTest {
    private static final int[] FAR_OFF = {Integer.MIN_VALUE, Integer.MAX_VALUE};

    private static final Check CHECK = new Check("PromiseTest");

    public static void main(String[] args) {
        newObject();
        sink();
        sinkOfTen();
        cut();
        source();
        wires();
        buffer();
        sinks();
        build();
        buildWrongly();
        node();
        nodeOfOneSink();
        nodeWrongly();
        nearestPairs();
        nearestTies();
        nearestMayMeet();
        halves();
        halvesTies();
        halvesOfTen();
        detourOnTheRight();
        detourOnTheLeft();
        length();
        depth();
        set();
        setting();
        load();
        delay();
        slack();
        best();
        improve();
        treeEnds();
        failureChangesNothing();
        CHECK.end();
    }

    private static void newObject() {
        CHECK.about("1, No sinks, no tree");
        EvenClock clock = new EvenClock();
        CHECK.same("a new object's sinks", 0, clock.sinks());
        CHECK.noTree("a new object", clock);
        EvenClock other = new EvenClock();
        clock.sink(1, 1, 1, 1);
        CHECK.same("another object's sinks", 0, other.sinks());
    }

    private static void sink() {
        CHECK.about("2, A new sink: its number");
        EvenClock clock = new EvenClock();
        CHECK.same("the first sink", 0, clock.sink(0, 0, 1, 0));
        CHECK.same("the second sink", 1, clock.sink(200, 200, 100, 1000000000));
        CHECK.same("a sink where one is", 2, clock.sink(0, 0, 1, 0));
        int[][] wrong = {
            {-1, 0, 1, 0}, {201, 0, 1, 0}, {0, -1, 1, 0}, {0, 201, 1, 0}, {0, 0, 0, 0},
            {0, 0, 101, 0}, {0, 0, -1, 0}, {0, 0, 1, -1}, {0, 0, 1, 1000000001},
        };
        for (int[] w : wrong) {
            CHECK.fails("a wrong sink", Due.ARGUMENT, () -> clock.sink(w[0], w[1], w[2], w[3]));
        }
        for (int far : FAR_OFF) {
            CHECK.fails("far x", Due.ARGUMENT, () -> clock.sink(far, 0, 1, 0));
            CHECK.fails("far y", Due.ARGUMENT, () -> clock.sink(0, far, 1, 0));
            CHECK.fails("far load", Due.ARGUMENT, () -> clock.sink(0, 0, far, 0));
            CHECK.fails("far need", Due.ARGUMENT, () -> clock.sink(0, 0, 1, far));
        }
        CHECK.same("sinks after wrong ones", 3, clock.sinks());
        clock.build(0);
        CHECK.same("load of the second sink", 102400, clock.load(1, false));
        CHECK.same("u of the second sink", 409600, clock.node(1, 3));
    }

    private static void sinkOfTen() {
        CHECK.about("2, UnsupportedOperationException when there are ten");
        EvenClock clock = new EvenClock();
        for (int k = 0; k < 10; k++) {
            CHECK.same("sink " + k, k, clock.sink(k, 2 * k, 1, 0));
        }
        CHECK.fails("an eleventh sink", Due.UNSUPPORTED, () -> clock.sink(0, 0, 1, 0));
        CHECK.fails("a wrong eleventh sink", Due.ARGUMENT, () -> clock.sink(0, 0, 0, 0));
        CHECK.same("sinks", 10, clock.sinks());
        clock.cut(9);
        CHECK.same("the tenth again", 9, clock.sink(0, 0, 1, 0));
    }

    private static void cut() {
        CHECK.about("3, Only the first n sinks stay");
        EvenClock clock = Clocks.of(1, 1, 2, 2, 3, 3);
        CHECK.fails("a negative cut", Due.ARGUMENT, () -> clock.cut(-1));
        CHECK.fails("a cut of too many", Due.ARGUMENT, () -> clock.cut(4));
        for (int far : FAR_OFF) {
            CHECK.fails("a cut far off", Due.ARGUMENT, () -> clock.cut(far));
        }
        CHECK.same("after wrong cuts", 3, clock.sinks());
        clock.cut(3);
        CHECK.same("after cut(3)", 3, clock.sinks());
        clock.cut(1);
        CHECK.same("after cut(1)", 1, clock.sinks());
        CHECK.fails("a cut back", Due.ARGUMENT, () -> clock.cut(2));
        CHECK.same("a sink after a cut", 1, clock.sink(7, 0, 9, 5));
        clock.build(1);
        CHECK.same("the first stays", 2048, clock.node(0, 3));
        CHECK.same("the second is new", 7168, clock.node(1, 3));
        CHECK.same("and so is its load", 9216, clock.load(1, true));
        clock.cut(0);
        CHECK.same("after cut(0)", 0, clock.sinks());
        CHECK.fails("build after cut(0)", Due.NO_ELEMENT, () -> clock.build(0));
    }

    private static void source() {
        CHECK.about("4, Where the source is");
        EvenClock clock = Clocks.of(3, 5);
        clock.build(0);
        CHECK.same("from 0, 0", 8192, clock.node(0, 8));
        clock.source(200, 0);
        clock.build(0);
        CHECK.same("from 200, 0", 206848, clock.node(0, 8));
        clock.source(0, 200);
        clock.build(0);
        CHECK.same("from 0, 200", 202752, clock.node(0, 8));
        CHECK.fails("x too small", Due.ARGUMENT, () -> clock.source(-1, 0));
        CHECK.fails("x too great", Due.ARGUMENT, () -> clock.source(201, 0));
        CHECK.fails("y too small", Due.ARGUMENT, () -> clock.source(0, -1));
        CHECK.fails("y too great", Due.ARGUMENT, () -> clock.source(0, 201));
        for (int far : FAR_OFF) {
            CHECK.fails("far x", Due.ARGUMENT, () -> clock.source(far, 0));
            CHECK.fails("far y", Due.ARGUMENT, () -> clock.source(0, far));
        }
        clock.build(0);
        CHECK.same("still from 0, 200", 202752, clock.node(0, 8));
        clock.cut(0);
        clock.sink(0, 200, 1, 0);
        clock.build(0);
        CHECK.same("a cut leaves the source", 0, clock.node(0, 8));
    }

    private static void wires() {
        CHECK.about("5, Resistance and capacity of wires from now on");
        EvenClock clock = Clocks.pair();
        clock.wires(3, 1);
        CHECK.same("resistance 3", 239075328L, clock.delay(1));
        clock.wires(1, 2);
        CHECK.same("capacity 2", 16384, clock.load(2, false));
        CHECK.same("delay with capacity 2", 104857600L, clock.delay(1));
        clock.wires(20, 20);
        CHECK.same("capacity 20", 90112, clock.load(2, false));
        CHECK.fails("no resistance", Due.ARGUMENT, () -> clock.wires(0, 1));
        CHECK.fails("resistance 21", Due.ARGUMENT, () -> clock.wires(21, 1));
        CHECK.fails("no capacity", Due.ARGUMENT, () -> clock.wires(1, 0));
        CHECK.fails("capacity 21", Due.ARGUMENT, () -> clock.wires(1, 21));
        for (int far : FAR_OFF) {
            CHECK.fails("far resistance", Due.ARGUMENT, () -> clock.wires(far, 1));
            CHECK.fails("far capacity", Due.ARGUMENT, () -> clock.wires(1, far));
        }
        CHECK.same("capacity still 20", 90112, clock.load(2, false));
        clock.set(2, true);
        clock.wires(1, 1);
        CHECK.same("wires leave the setting", 1, clock.setting());
        clock.wires(2, 1);
        clock.build(0);
        CHECK.same("building leaves the wires", 159383552L, clock.delay(1));
    }

    private static void buffer() {
        CHECK.about("6, The buffer from now on");
        EvenClock clock = Clocks.pair();
        clock.set(2, true);
        CHECK.same("input at first", 1024, clock.load(2, true));
        CHECK.same("drive and delay at first", 33579008L, clock.delay(1));
        clock.buffer(7, 1, 0);
        CHECK.same("input 7", 7168, clock.load(2, true));
        CHECK.same("delay with input 7", 58744832L, clock.delay(1));
        clock.buffer(1, 10, 0);
        CHECK.same("delay with drive 10", 33800192L, clock.delay(1));
        clock.buffer(1, 1, 1000);
        CHECK.same("delay with delay 1000", 33580008L, clock.delay(1));
        clock.buffer(1000000, 1000, 1000000000);
        CHECK.same("all at most", 4195357936128L, clock.delay(1));
        CHECK.fails("no input", Due.ARGUMENT, () -> clock.buffer(0, 1, 0));
        CHECK.fails("input too great", Due.ARGUMENT, () -> clock.buffer(1000001, 1, 0));
        CHECK.fails("no drive", Due.ARGUMENT, () -> clock.buffer(1, 0, 0));
        CHECK.fails("drive too great", Due.ARGUMENT, () -> clock.buffer(1, 1001, 0));
        CHECK.fails("delay negative", Due.ARGUMENT, () -> clock.buffer(1, 1, -1));
        CHECK.fails("delay too great", Due.ARGUMENT, () -> clock.buffer(1, 1, 1000000001));
        for (int far : FAR_OFF) {
            CHECK.fails("far input", Due.ARGUMENT, () -> clock.buffer(far, 1, 0));
            CHECK.fails("far drive", Due.ARGUMENT, () -> clock.buffer(1, far, 0));
            CHECK.fails("far delay", Due.ARGUMENT, () -> clock.buffer(1, 1, far));
        }
        CHECK.same("the buffer stays", 4195357936128L, clock.delay(1));
        CHECK.same("the setting stays", 1, clock.setting());
    }

    private static void sinks() {
        CHECK.about("7, How many sinks there are");
        EvenClock clock = new EvenClock();
        for (int k = 0; k < 10; k++) {
            CHECK.same("before sink " + k, k, clock.sinks());
            clock.sink(k, k, 1, 0);
        }
        CHECK.same("of ten", 10, clock.sinks());
        clock.build(0);
        CHECK.same("building leaves them", 10, clock.sinks());
        clock.cut(4);
        CHECK.same("after a cut", 4, clock.sinks());
    }

    private static void build() {
        CHECK.about("8, Builds the tree by a way: how many nodes it has");
        EvenClock clock = new EvenClock();
        for (int k = 0; k < 10; k++) {
            clock.sink(7 * k % 10, 3 * k, 1, 0);
            CHECK.same("nodes by way 0", 2 * k + 1, clock.build(0));
            CHECK.same("nodes by way 1", 2 * k + 1, clock.build(1));
        }
        EvenClock pair = Clocks.pair();
        pair.set(2, true);
        pair.build(0);
        CHECK.same("a tree built anew has no buffers", 0, pair.setting());
    }

    private static void buildWrongly() {
        CHECK.about("8, IllegalArgumentException when way is not 0 or 1;"
                + " NoSuchElementException when there is no sink");
        EvenClock clock = new EvenClock();
        CHECK.fails("no sink by way 0", Due.NO_ELEMENT, () -> clock.build(0));
        CHECK.fails("no sink by way 1", Due.NO_ELEMENT, () -> clock.build(1));
        CHECK.fails("no sink by way 2", Due.ARGUMENT, () -> clock.build(2));
        clock.sink(1, 1, 1, 1);
        CHECK.fails("way 2", Due.ARGUMENT, () -> clock.build(2));
        CHECK.fails("way -1", Due.ARGUMENT, () -> clock.build(-1));
        for (int far : FAR_OFF) {
            CHECK.fails("way far off", Due.ARGUMENT, () -> clock.build(far));
        }
        CHECK.noTree("after wrong builds", clock);
    }

    private static void node() {
        CHECK.about("9, Of a node: parts 0 to 10");
        EvenClock clock = Clocks.of(0, 0, 2, 2);
        clock.source(10, 0);
        clock.build(0);
        CHECK.parts("left", clock, 0, -1, -1, 2, 0, 0, 0, 0, 0, 2048, 0, 0);
        CHECK.parts("right", clock, 1, -1, -1, 2, 4096, 4096, 0, 0, 0, 2048, 4096, 0);
        CHECK.parts("root", clock, 2, 0, 1, -1, 2048, 2048, -2048, 2048, 2048, 8192, 2048, 2048);
    }

    private static void nodeOfOneSink() {
        CHECK.about("9, Of a node: parts 0 to 10, of one sink");
        EvenClock clock = Clocks.of(3, 5);
        clock.build(1);
        CHECK.parts("alone", clock, 0, -1, -1, -1, 8192, 8192, -2048, -2048, 0, 8192, 8192, -2048);
        clock.source(3, 5);
        clock.build(0);
        CHECK.same("no wire above it", 0, clock.node(0, 8));
    }

    private static void nodeWrongly() {
        CHECK.about("9, IndexOutOfBoundsException when there is no such node or part");
        EvenClock clock = Clocks.pair();
        CHECK.fails("node -1", Due.INDEX, () -> clock.node(-1, 0));
        CHECK.fails("node 3", Due.INDEX, () -> clock.node(3, 0));
        CHECK.fails("part -1", Due.INDEX, () -> clock.node(0, -1));
        CHECK.fails("part 11", Due.INDEX, () -> clock.node(0, 11));
        for (int far : FAR_OFF) {
            CHECK.fails("node far off", Due.INDEX, () -> clock.node(far, 0));
            CHECK.fails("part far off", Due.INDEX, () -> clock.node(0, far));
        }
        CHECK.same("node 2, part 10", 2048, clock.node(2, 10));
        EvenClock larger = Clocks.of(0, 0, 9, 9, 3, 4);
        larger.build(0);
        larger.cut(1);
        larger.build(0);
        CHECK.fails("a node of the tree before", Due.INDEX, () -> larger.node(1, 0));
    }

    // The nearest are 1 and 3, then 0 with their join, then 2.
    private static void nearestPairs() {
        CHECK.about("8, Builds the tree by a way, BY WAY 0");
        EvenClock clock = Clocks.of(0, 0, 10, 0, 40, 0, 12, 0);
        clock.build(0);
        CHECK.parts("first join", clock, 4,
                1, 3, 5, 11264, 11264, 11264, 11264, 1024, 5120, 11264, 11264);
        CHECK.parts("second join", clock, 5,
                0, 4, 6, 6144, 6144, 6144, 6144, 6144, 14336, 6144, 6144);
        CHECK.parts("root", clock, 6,
                2, 5, -1, 20480, 20480, 20480, 20480, 20480, 20480, 20480, 20480);
        CHECK.same("wire above 0", 6144, clock.node(0, 8));
        CHECK.same("wire above 2", 20480, clock.node(2, 8));
    }

    // Four corners of a square: 0 has two sinks as near, and the lesser number goes first.
    private static void nearestTies() {
        CHECK.about("8, Builds the tree by a way, BY WAY 0, of several pairs");
        EvenClock clock = Clocks.of(0, 0, 10, 10, 10, 0, 0, 10);
        clock.build(0);
        CHECK.parts("ties", clock, 4, 0, 2);
        CHECK.parts("ties", clock, 5, 1, 3);
        CHECK.parts("ties", clock, 6, 4, 5);
        CHECK.parts("the square's middle", clock, 6,
                4, 5, -1, 10240, 10240, 0, 0, 10240, 10240, 10240, 0);
        EvenClock row = Clocks.of(20, 0, 10, 0, 0, 0);
        row.build(0);
        CHECK.parts("a row's ties", row, 3, 0, 1);
        CHECK.parts("a row's ties", row, 4, 2, 3);
    }

    private static void nearestMayMeet() {
        CHECK.about("8, Builds the tree by a way, BY WAY 0, at one place");
        EvenClock clock = Clocks.of(5, 5, 5, 5, 5, 5);
        clock.build(0);
        CHECK.parts("at one place", clock, 3, 0, 1);
        CHECK.parts("at one place", clock, 4, 2, 3);
        CHECK.same("time of sinks at one place", 0, clock.node(4, 7));
        CHECK.same("only the wire from the source", 10240, clock.length());
    }

    // Of five the first three by x, of which the first two by y.
    private static void halves() {
        CHECK.about("8, Builds the tree by a way, BY WAY 1");
        EvenClock clock = Clocks.of(50, 0, 10, 9, 20, 3, 30, 6, 40, 8);
        clock.build(1);
        CHECK.parts("first half's half", clock, 5, 2, 3);
        CHECK.parts("first half", clock, 6, 5, 1);
        CHECK.parts("rest", clock, 7, 0, 4);
        CHECK.parts("all", clock, 8, 6, 7);
        CHECK.same("its parent", 8, clock.node(7, 2));
    }

    private static void halvesTies() {
        CHECK.about("8, Builds the tree by a way, BY WAY 1, those with the same one");
        EvenClock sameX = Clocks.of(5, 9, 5, 1, 5, 1, 5, 4);
        sameX.build(1);
        CHECK.parts("same x, so by y, so by number", sameX, 4, 1, 2);
        CHECK.parts("then the rest", sameX, 5, 3, 0);
        EvenClock sameY = Clocks.of(1, 7, 0, 7, 50, 2, 49, 2);
        sameY.build(1);
        CHECK.parts("same y, so by x", sameY, 4, 1, 0);
        CHECK.parts("same y in the rest", sameY, 5, 3, 2);
    }

    // 10 is cut to 5 and 5, these to 3 and 2, the 3 to 2 and 1: every second cut by y.
    private static void halvesOfTen() {
        CHECK.about("8, Builds the tree by a way, BY WAY 1, of ten");
        EvenClock clock = Clocks.of(0, 4, 1, 3, 2, 2, 3, 1, 4, 0, 9, 4, 8, 3, 7, 2, 6, 1, 5, 0);
        clock.build(1);
        int[][] due = {
            {3, 2}, {10, 4}, {0, 1}, {11, 12}, {9, 8}, {14, 7}, {6, 5}, {15, 16}, {13, 17},
        };
        for (int k = 0; k < due.length; k++) {
            CHECK.parts("ten by way 1", clock, 10 + k, due[k][0], due[k][1]);
        }
    }

    // The join of 0 and 1 has a time greater than sink 2 is far from its region.
    private static void detourOnTheRight() {
        CHECK.about("8, Builds the tree by a way, If s is greater than d + t");
        EvenClock clock = Clocks.of(0, 0, 1, 20, 2, 10);
        clock.build(1);
        CHECK.parts("first half", clock, 3,
                0, 1, 4, 10752, 10752, -10752, -8704, 10752, 0, 10752, -8704);
        CHECK.parts("root", clock, 4,
                3, 2, -1, 10752, 10752, -10752, -8704, 10752, 10752, 10752, -8704);
        CHECK.same("more wire than the way needs", 10752, clock.node(2, 8));
        CHECK.parts("sink 2", clock, 2,
                -1, -1, 4, 12288, 12288, -8192, -8192, 0, 10752, 12288, -8192);
        CHECK.same("length with the detour", 43008, clock.length());
    }

    private static void detourOnTheLeft() {
        CHECK.about("8, Builds the tree by a way, if t is greater than d + s");
        EvenClock clock = Clocks.of(0, 10, 0, 11, 1, 0, 1, 20);
        clock.build(1);
        CHECK.parts("first half", clock, 4,
                0, 1, 6, 10752, 10752, -10752, -10752, 512, 9728, 10752, -10752);
        CHECK.parts("rest", clock, 5,
                2, 3, 6, 11264, 11264, -9216, -9216, 10240, 0, 11264, -9216);
        CHECK.parts("root", clock, 6,
                4, 5, -1, 11264, 11264, -9216, -9216, 10240, 11264, 11264, -9216);
    }

    private static void length() {
        CHECK.about("10, The sum of the lengths of all wires");
        EvenClock clock = Clocks.pair();
        CHECK.same("three wires", 6144, clock.length());
        clock.set(2, true);
        CHECK.same("buffers leave it", 6144, clock.length());
        clock.source(2, 0);
        clock.build(0);
        CHECK.same("two wires", 4096, clock.length());
        EvenClock alone = Clocks.of(200, 200);
        alone.build(0);
        CHECK.same("from corner to corner", 409600, alone.length());
    }

    private static void depth() {
        CHECK.about("11, How many joins are above a sink");
        EvenClock clock = Clocks.of(0, 0, 10, 0, 40, 0, 12, 0);
        clock.build(0);
        int[] due = {2, 3, 1, 3};
        for (int k = 0; k < due.length; k++) {
            CHECK.same("depth of " + k, due[k], clock.depth(k));
        }
        CHECK.fails("depth of -1", Due.INDEX, () -> clock.depth(-1));
        CHECK.fails("depth of a join", Due.INDEX, () -> clock.depth(4));
        for (int far : FAR_OFF) {
            CHECK.fails("depth far off", Due.INDEX, () -> clock.depth(far));
        }
        EvenClock alone = Clocks.of(1, 1);
        alone.build(0);
        CHECK.same("depth of one sink", 0, alone.depth(0));
    }

    private static void set() {
        CHECK.about("12, A buffer is set at a join, or taken away: whether that changed something");
        EvenClock clock = Clocks.of(0, 0, 10, 0, 40, 0, 12, 0);
        clock.build(0);
        CHECK.that("taking none away changes nothing", !clock.set(5, false));
        CHECK.that("setting one changes something", clock.set(5, true));
        CHECK.that("setting it again does not", !clock.set(5, true));
        CHECK.that("another one does", clock.set(6, true));
        CHECK.that("taking it away does", clock.set(5, false));
        CHECK.that("taking it away again does not", !clock.set(5, false));
        CHECK.same("one is left", 4, clock.setting());
        CHECK.fails("a sink", Due.INDEX, () -> clock.set(3, true));
        CHECK.fails("a sink, off", Due.INDEX, () -> clock.set(0, false));
        CHECK.fails("beyond the root", Due.INDEX, () -> clock.set(7, true));
        CHECK.fails("-1", Due.INDEX, () -> clock.set(-1, true));
        for (int far : FAR_OFF) {
            CHECK.fails("far off", Due.INDEX, () -> clock.set(far, true));
        }
        CHECK.fails("32 above a join", Due.INDEX, () -> clock.set(36, true));
        CHECK.same("wrong ones change nothing", 4, clock.setting());
        EvenClock alone = Clocks.of(1, 1);
        alone.build(0);
        CHECK.fails("the root that is a sink", Due.INDEX, () -> alone.set(0, true));
        CHECK.fails("none beside it", Due.INDEX, () -> alone.set(1, true));
    }

    private static void setting() {
        CHECK.about("13, The number of the present setting");
        EvenClock clock = new EvenClock();
        for (int k = 0; k < 10; k++) {
            clock.sink(k, 2 * k, 1, 0);
        }
        clock.build(1);
        CHECK.same("at first", 0, clock.setting());
        for (int join = 10; join < 19; join++) {
            clock.set(join, true);
            CHECK.same("with joins up to " + join, (1 << (join - 9)) - 1, clock.setting());
        }
        clock.set(10, false);
        CHECK.same("without the first", 510, clock.setting());
        clock.best();
        clock.slack();
        CHECK.same("looking leaves it", 510, clock.setting());
        clock.build(1);
        CHECK.same("after building", 0, clock.setting());
    }

    private static void load() {
        CHECK.about("14, What a node bears, or shows");
        EvenClock clock = Clocks.of(0, 0, 10, 0, 40, 0, 12, 0);
        clock.build(0);
        CHECK.same("a sink bears", 1024, clock.load(0, false));
        CHECK.same("a sink shows", 1024, clock.load(0, true));
        CHECK.same("4 bears", 4096, clock.load(4, false));
        CHECK.same("5 bears", 16384, clock.load(5, false));
        CHECK.same("6 bears", 52224, clock.load(6, false));
        CHECK.same("6 shows", 52224, clock.load(6, true));
        clock.buffer(2, 1, 0);
        clock.set(5, true);
        CHECK.same("5 bears as before", 16384, clock.load(5, false));
        CHECK.same("5 shows its buffer", 2048, clock.load(5, true));
        CHECK.same("6 bears less", 37888, clock.load(6, false));
        CHECK.same("4 shows what it bears", 4096, clock.load(4, true));
        CHECK.fails("node -1", Due.INDEX, () -> clock.load(-1, true));
        CHECK.fails("node 7", Due.INDEX, () -> clock.load(7, false));
        for (int far : FAR_OFF) {
            CHECK.fails("node far off", Due.INDEX, () -> clock.load(far, true));
        }
    }

    private static void delay() {
        CHECK.about("15, The delay of a sink");
        EvenClock clock = Clocks.pair();
        CHECK.same("left", 71303168L, clock.delay(0));
        CHECK.same("right", 79691776L, clock.delay(1));
        clock.set(2, true);
        CHECK.same("left with a buffer", 25190400L, clock.delay(0));
        CHECK.same("right with a buffer", 33579008L, clock.delay(1));
        clock.set(2, false);
        CHECK.same("without it again", 71303168L, clock.delay(0));
        CHECK.fails("sink -1", Due.INDEX, () -> clock.delay(-1));
        CHECK.fails("a join", Due.INDEX, () -> clock.delay(2));
        for (int far : FAR_OFF) {
            CHECK.fails("sink far off", Due.INDEX, () -> clock.delay(far));
        }
        EvenClock alone = new EvenClock();
        alone.sink(1, 0, 2, 0);
        alone.build(0);
        CHECK.same("the wire above the root alone", 5242880L, alone.delay(0));
        alone.source(1, 0);
        alone.build(0);
        CHECK.same("no wire, no delay", 0, alone.delay(0));
    }

    private static void slack() {
        CHECK.about("16, The slack of the tree");
        EvenClock clock = Clocks.pair();
        CHECK.same("the right one's", 25165824L, clock.slack());
        clock.set(2, true);
        CHECK.same("with a buffer", 71278592L, clock.slack());
        clock.cut(0);
        clock.sink(0, 0, 3, 0);
        clock.sink(4, 0, 5, 1000000000);
        clock.build(0);
        CHECK.same("the left one's, negative", -71303168L, clock.slack());
        clock.cut(0);
        clock.sink(0, 0, 1, 1000000000);
        clock.build(0);
        CHECK.same("the greatest need", 1048576000000000L, clock.slack());
    }

    private static void best() {
        CHECK.about("17, The slack of the tree with the BEST setting");
        EvenClock clock = Clocks.pair();
        CHECK.same("with the buffer", 71278592L, clock.best());
        CHECK.same("the slack stays", 25165824L, clock.slack());
        CHECK.same("the setting stays", 0, clock.setting());
        clock.set(2, true);
        CHECK.same("the same when it is set", 71278592L, clock.best());
        clock.buffer(1000, 1, 0);
        CHECK.same("now without it", 25165824L, clock.best());
        CHECK.same("it still stands", 1, clock.setting());
        EvenClock alone = Clocks.of(1, 0);
        alone.build(0);
        CHECK.same("no join", alone.slack(), alone.best());
    }

    private static void improve() {
        CHECK.about("18, The present setting becomes the BEST one: its number");
        EvenClock clock = Clocks.pair();
        CHECK.same("the buffer helps", 1, clock.improve());
        CHECK.same("and is set", 1, clock.setting());
        CHECK.same("so the slack is the best", 71278592L, clock.slack());
        CHECK.same("again", 1, clock.improve());
        clock.buffer(1000, 1, 0);
        CHECK.same("it helps no more", 0, clock.improve());
        CHECK.same("and is taken away", 0, clock.setting());
        clock.buffer(1, 1, 0);
        clock.cut(1);
        clock.build(0);
        CHECK.same("no join", 0, clock.improve());
        improveOfSeveralAlike();
    }

    // The buffer at 3 shows just what 3 bears, so the far sink, which decides, feels only the
    // root's.
    private static void improveOfSeveralAlike() {
        EvenClock clock = new EvenClock();
        clock.source(2, 0);
        clock.sink(2, 0, 1, 1000000);
        clock.sink(2, 0, 1, 1000000);
        clock.sink(100, 100, 1, 0);
        clock.build(0);
        CHECK.parts("alike", clock, 3, 0, 1);
        CHECK.parts("alike", clock, 4, 2, 3);
        clock.buffer(2, 1, 0);
        CHECK.same("the root's buffer is enough", 2, clock.improve());
        long slack = clock.slack();
        clock.set(3, true);
        CHECK.same("though one more does as well", slack, clock.slack());
        CHECK.same("the least number is taken again", 2, clock.improve());
    }

    private static void treeEnds() {
        CHECK.about("Terms, sink, cut and source end the tree");
        EvenClock bySink = Clocks.pair();
        bySink.sink(1, 1, 1, 1);
        CHECK.noTree("after sink", bySink);
        EvenClock byCut = Clocks.pair();
        byCut.cut(2);
        CHECK.noTree("after a cut of none", byCut);
        EvenClock bySource = Clocks.pair();
        bySource.source(0, 0);
        CHECK.noTree("after the same source", bySource);
        bySource.build(0);
        CHECK.same("built again", 6144, bySource.length());
        EvenClock byNone = Clocks.pair();
        byNone.wires(2, 2);
        byNone.buffer(2, 2, 2);
        CHECK.same("wires and buffer leave it", 6144, byNone.length());
    }

    private static void failureChangesNothing() {
        CHECK.about("Terms, A call that throws changes nothing");
        EvenClock clock = Clocks.pair();
        clock.set(2, true);
        CHECK.fails("sink", Due.ARGUMENT, () -> clock.sink(0, 0, 0, 0));
        CHECK.fails("cut", Due.ARGUMENT, () -> clock.cut(3));
        CHECK.fails("source", Due.ARGUMENT, () -> clock.source(5, 201));
        CHECK.fails("wires", Due.ARGUMENT, () -> clock.wires(5, 21));
        CHECK.fails("buffer", Due.ARGUMENT, () -> clock.buffer(5, 5, -1));
        CHECK.fails("build", Due.ARGUMENT, () -> clock.build(2));
        CHECK.fails("set", Due.INDEX, () -> clock.set(3, false));
        CHECK.same("the setting", 1, clock.setting());
        CHECK.same("the delay", 33579008L, clock.delay(1));
        CHECK.same("the sinks", 2, clock.sinks());
        clock.build(0);
        CHECK.same("the source", 2048, clock.node(2, 8));
        EvenClock full = new EvenClock();
        for (int k = 0; k < 10; k++) {
            full.sink(k, 0, 1, 0);
        }
        full.build(0);
        CHECK.fails("an eleventh sink", Due.UNSUPPORTED, () -> full.sink(0, 0, 1, 0));
        CHECK.same("leaves the tree", 1024, full.load(9, true));
    }
}
