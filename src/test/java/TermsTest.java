/** The edges inside the terms, each with answers worked out by hand. */
public final class TermsTest {
    private static final Check CHECK = new Check("TermsTest");

    public static void main(String[] args) {
        twoAtOnePlace();
        leftTimeAndNoRightOne();
        rightTimeAndNoLeftOne();
        leftTimeTheGreater();
        rightTimeTheGreater();
        detourByWay0();
        regionsThatTouch();
        regionsApart();
        sameDistance();
        sameDistanceWithJoins();
        leastDistanceFirst();
        sameX();
        sameY();
        sameXAndY();
        oddRows();
        cutsByTurns();
        sourceInRootRegion();
        sourceOutsideRootRegion();
        sourceOutsideWideRegion();
        placesNearestToParent();
        whatIsShown();
        leastSlackOfSinks();
        bufferThatIsJustAsGood();
        sameSlackWithoutAndWith();
        sameSlackOfTwoSettings();
        sameSlackOfMoreBuffers();
        sameSlackOfManySettings();
        lookingForBestChangesNothing();
        CHECK.end();
    }

    private static void twoAtOnePlace() {
        CHECK.about("Terms, TO JOIN two nodes at one place");
        for (int way = 0; way <= 1; way++) {
            EvenClock clock = Clocks.built(way, 5, 3, 5, 3);
            CHECK.parts("left", clock, 0, -1, -1, 2, 8192, 8192, 2048, 2048, 0, 0, 8192, 2048);
            CHECK.parts("right", clock, 1, -1, -1, 2, 8192, 8192, 2048, 2048, 0, 0, 8192, 2048);
            CHECK.parts("root", clock, 2, 0, 1, -1, 8192, 8192, 2048, 2048, 0, 8192, 8192, 2048);
            CHECK.same("length", 8192, clock.length());
            CHECK.same("borne", 2048, clock.load(2, false));
            CHECK.same("delay", 8192 * (8192 + 2 * 2048), clock.delay(1));
        }
        EvenClock apart = Clocks.built(0, 5, 3, 9, 9, 5, 3);
        CHECK.joins("one between them by number", apart, 0, 2, 1, 3);
    }

    /**
     * By way 1: the wires above the root's children, left and right, then U1, U2, V1, V2 and time
     * of the root. The same sinks with 20 - y for y have u and v changed about.
     */
    private static void joined(String what, int[] xy, int... due) {
        int far = 20 * 1024;
        rootIs(what, Clocks.built(1, xy), due);
        rootIs(what + ", mirrored", Clocks.built(1, mirrored(xy)), due[0], due[1],
                due[4] + far, due[5] + far, due[2] - far, due[3] - far, due[6]);
    }

    private static int[] mirrored(int... xy) {
        int[] turned = xy.clone();
        for (int k = 1; k < turned.length; k += 2) {
            turned[k] = 20 - turned[k];
        }
        return turned;
    }

    private static void rootIs(String what, EvenClock clock, int... due) {
        int root = 2 * clock.sinks() - 2;
        CHECK.same(what + ": above left", due[0], clock.node(clock.node(root, 0), 8));
        CHECK.same(what + ": above right", due[1], clock.node(clock.node(root, 1), 8));
        for (int k = 2; k < due.length; k++) {
            CHECK.same(what + ": root's part " + (k + 1), due[k], clock.node(root, k + 1));
        }
    }

    // 0 and 1 are joined with u 5120, v -5120 to -3072 and time 5120; 2 is 6144, 5120, 4096 off.
    private static void leftTimeAndNoRightOne() {
        CHECK.about("Terms, If s is greater than d + t: just not");
        joined("s less", new int[] {0, 0, 1, 9, 2, 9},
                512, 5632, 5632, 5632, -5632, -2560, 5632);
        CHECK.about("Terms, If s is greater than d + t: just equal");
        joined("s equal", new int[] {0, 0, 1, 9, 2, 8},
                0, 5120, 5120, 5120, -5120, -3072, 5120);
        CHECK.about("Terms, If s is greater than d + t: just greater");
        joined("s greater", new int[] {0, 0, 1, 9, 2, 7},
                0, 5120, 5120, 5120, -5120, -3072, 5120);
    }

    // 2 and 3 are joined with u 6144, v -4096 to -2048 and time 5120; 0 and 1 at one place are
    // 6144, 5120, 4096 off.
    private static void rightTimeAndNoLeftOne() {
        CHECK.about("Terms, if t is greater than d + s: just not");
        joined("t less", new int[] {0, 0, 0, 0, 1, 0, 2, 9},
                5632, 512, 5632, 5632, -4608, -1536, 5632);
        CHECK.about("Terms, if t is greater than d + s: just equal");
        joined("t equal", new int[] {0, 1, 0, 1, 1, 0, 2, 9},
                5120, 0, 6144, 6144, -4096, -2048, 5120);
        CHECK.about("Terms, if t is greater than d + s: just greater");
        joined("t greater", new int[] {0, 2, 0, 2, 1, 0, 2, 9},
                5120, 0, 6144, 6144, -4096, -2048, 5120);
    }

    // As before, but the other side is a join of time 1024.
    private static void leftTimeTheGreater() {
        CHECK.about("Terms, If s is greater than d + t, t not being 0: just not");
        joined("s less", new int[] {0, 0, 1, 9, 2, 7, 4, 7},
                512, 4608, 5632, 5632, -5632, -2560, 5632);
        CHECK.about("Terms, If s is greater than d + t, t not being 0: just equal");
        joined("s equal", new int[] {0, 0, 1, 9, 2, 6, 4, 6},
                0, 4096, 5120, 5120, -5120, -3072, 5120);
        CHECK.about("Terms, If s is greater than d + t, t not being 0: just greater");
        joined("s greater", new int[] {0, 0, 1, 9, 2, 5, 4, 5},
                0, 4096, 5120, 5120, -5120, -3072, 5120);
    }

    private static void rightTimeTheGreater() {
        CHECK.about("Terms, if t is greater than d + s, s not being 0: just not");
        joined("t less", new int[] {0, 0, 0, 2, 1, 0, 2, 9},
                4608, 512, 5632, 5632, -4608, -1536, 5632);
        CHECK.about("Terms, if t is greater than d + s, s not being 0: just equal");
        joined("t equal", new int[] {0, 1, 0, 3, 1, 0, 2, 9},
                4096, 0, 6144, 6144, -4096, -2048, 5120);
        CHECK.about("Terms, if t is greater than d + s, s not being 0: just greater");
        joined("t greater", new int[] {0, 2, 0, 4, 1, 0, 2, 9},
                4096, 0, 6144, 6144, -4096, -2048, 5120);
    }

    // Four corners are joined to their middle, which is nearer to the fifth than its time.
    private static void detourByWay0() {
        CHECK.about("Terms, if t is greater than d + s, by way 0");
        EvenClock clock = Clocks.built(0, 5, 3, 5, 0, 1, 0, 1, 3, 3, 4);
        CHECK.joins("corners first", clock, 0, 1, 2, 3, 5, 6, 4, 7);
        CHECK.parts("middle", clock, 7,
                5, 6, 8, 4608, 4608, 1536, 1536, 3584, 0, 4608, 1536);
        CHECK.parts("fifth", clock, 4,
                -1, -1, 8, 7168, 7168, -1024, -1024, 0, 3584, 7168, -1024);
        CHECK.parts("root", clock, 8,
                4, 7, -1, 4608, 4608, 1536, 1536, 3584, 4608, 4608, 1536);
        CHECK.about("Terms, if t is greater than d + s: just equal, by way 0");
        EvenClock equal = Clocks.built(0, 0, 0, 2, 0, 1, 1);
        CHECK.joins("all as far from each other", equal, 0, 1, 2, 3);
        rootIs("t equal", equal, 1024, 0, 1024, 1024, 1024, 1024, 1024);
    }

    // Left u 4096 and v -4096 to 4096, right u 4096 to 20480 and v 4096: one place is in both.
    private static void regionsThatTouch() {
        CHECK.about("Terms, The distance of two regions is the least one of two of their places");
        EvenClock clock = Clocks.built(1, 0, 0, 4, 4, 4, 8, 12, 0);
        CHECK.joins("two and two", clock, 0, 1, 3, 2, 4, 5);
        CHECK.parts("left", clock, 4,
                0, 1, 6, 4096, 4096, -4096, 4096, 4096, 4096, 4096, 4096);
        CHECK.parts("right", clock, 5,
                3, 2, 6, 4096, 20480, 4096, 4096, 8192, 0, 4096, 4096);
        CHECK.parts("root", clock, 6,
                4, 5, -1, 4096, 8192, 4096, 4096, 8192, 4096, 4096, 4096);
    }

    // By way 0, so that either region is left. 4096 wide each, they are 36864 apart: by v, by u.
    private static void regionsApart() {
        CHECK.about("Terms, the greater of the differences of their us and of their vs");
        rootIs("left lower in v", Clocks.built(0, 0, 20, 2, 22, 20, 0, 22, 2),
                18432, 18432, 4096, 40960, 0, 0, 20480);
        rootIs("left higher in v", Clocks.built(0, 20, 0, 22, 2, 0, 20, 2, 22),
                18432, 18432, 4096, 40960, 0, 0, 20480);
        rootIs("left lower in u", Clocks.built(0, 0, 2, 2, 0, 20, 22, 22, 20),
                18432, 18432, 22528, 22528, -18432, 18432, 20480);
        rootIs("left higher in u", Clocks.built(0, 20, 22, 22, 20, 0, 2, 2, 0),
                18432, 18432, 22528, 22528, -18432, 18432, 20480);
    }

    private static void sameDistance() {
        CHECK.about("Terms, of several pairs the one whose lesser number is least");
        CHECK.joins("0 and 3 as near as 1 and 2", Clocks.built(0, 0, 0, 50, 0, 60, 0, 10, 0),
                0, 3, 1, 2, 4, 5);
        CHECK.joins("1 and 4 as near as 2 and 3",
                Clocks.built(0, 200, 0, 0, 0, 50, 0, 60, 0, 10, 0), 1, 4, 2, 3, 5, 6, 0, 7);
        CHECK.about("Terms, then the other one");
        CHECK.joins("0 between 1 and 2", Clocks.built(0, 10, 0, 0, 0, 20, 0), 0, 1, 2, 3);
        CHECK.joins("0 between 2 and 3", Clocks.built(0, 10, 0, 90, 0, 20, 0, 0, 0),
                0, 2, 3, 4, 1, 5);
        CHECK.about("Terms, the lesser number is left");
        CHECK.joins("1 before 0", Clocks.built(0, 9, 0, 3, 0), 0, 1);
        CHECK.joins("a sink and a join", Clocks.built(0, 90, 0, 3, 0, 9, 0), 1, 2, 0, 3);
        CHECK.about("Terms, of several pairs, all being as near");
        CHECK.joins("four as far from each other, and 2 and 3 from the join of 0 and 1",
                Clocks.built(0, 1, 0, 0, 1, 1, 2, 2, 1), 0, 1, 2, 4, 3, 5);
    }

    private static void sameDistanceWithJoins() {
        CHECK.about("Terms, of several pairs the one whose lesser number is least, of joins too");
        CHECK.joins("2 with a join as near as 3 and 4",
                Clocks.built(0, 0, 0, 2, 0, 11, 0, 50, 0, 60, 0), 0, 1, 2, 5, 3, 4, 6, 7);
        CHECK.about("Terms, then the other one, of joins too");
        CHECK.joins("2 as near to 3 as to a join",
                Clocks.built(0, 0, 0, 2, 0, 11, 0, 21, 0), 0, 1, 2, 3, 4, 5);
        CHECK.joins("a join between two joins",
                Clocks.built(0, 20, 0, 22, 0, 0, 0, 2, 0, 40, 0, 42, 0),
                0, 1, 2, 3, 4, 5, 6, 7, 8, 9);
    }

    private static void leastDistanceFirst() {
        CHECK.about("Terms, two of these with the least distance of their regions are joined");
        CHECK.joins("1 and 2 nearer by one", Clocks.built(0, 0, 0, 50, 0, 60, 0, 11, 0),
                1, 2, 0, 3, 4, 5);
        CHECK.joins("0 nearer to 2 by one", Clocks.built(0, 10, 0, 0, 0, 19, 0), 0, 2, 1, 3);
        CHECK.about("Terms, two of these that are not joined");
        CHECK.joins("0 and 2 are near, but 0 is joined", Clocks.built(0, 10, 0, 11, 0, 9, 0, 12, 0),
                0, 1, 2, 4, 3, 5);
    }

    private static void sameX() {
        CHECK.about("Terms, put in order by x, those with the same one by y");
        CHECK.joins("two", Clocks.built(1, 5, 9, 5, 1), 1, 0);
        CHECK.joins("four", Clocks.built(1, 5, 9, 5, 1, 5, 0, 5, 4), 2, 1, 3, 0, 4, 5);
        CHECK.joins("two of four at the middle", Clocks.built(1, 5, 8, 9, 0, 5, 7, 0, 0),
                3, 2, 1, 0, 4, 5);
    }

    private static void sameY() {
        CHECK.about("Terms, else by y, those with the same one by x");
        CHECK.joins("pairs", Clocks.built(1, 1, 7, 0, 7, 50, 2, 49, 2), 1, 0, 3, 2, 4, 5);
        CHECK.joins("three of six", Clocks.built(1, 2, 7, 1, 7, 0, 7, 9, 3, 8, 3, 7, 3),
                2, 1, 6, 0, 5, 4, 8, 3, 7, 9);
        CHECK.about("Terms, by x, though all have the same y");
        CHECK.joins("two", Clocks.built(1, 9, 5, 1, 5), 1, 0);
    }

    private static void sameXAndY() {
        CHECK.about("Terms, then by their numbers");
        CHECK.joins("two", Clocks.built(1, 5, 5, 5, 5), 0, 1);
        CHECK.joins("five", Clocks.built(1, 5, 5, 5, 5, 5, 5, 5, 5, 5, 5), 0, 1, 5, 2, 3, 4, 6, 7);
        CHECK.joins("by x and then by number", Clocks.built(1, 9, 5, 5, 5, 9, 5, 5, 5),
                1, 3, 0, 2, 4, 5);
        CHECK.joins("by y and then by number", Clocks.built(1, 5, 9, 5, 1, 5, 9, 5, 1),
                1, 3, 0, 2, 4, 5);
    }

    private static void oddRows() {
        CHECK.about("Terms, the first half of them (the greater one, if they are odd)");
        CHECK.joins("three", Clocks.built(1, 0, 0, 1, 0, 2, 0), 0, 1, 3, 2);
        CHECK.joins("five", Clocks.built(1, 0, 0, 1, 0, 2, 0, 3, 0, 4, 0), 0, 1, 5, 2, 3, 4, 6, 7);
        CHECK.joins("seven", Clocks.built(1, 0, 0, 1, 0, 2, 0, 3, 0, 4, 0, 5, 0, 6, 0),
                0, 1, 2, 3, 7, 8, 4, 5, 10, 6, 9, 11);
        CHECK.joins("nine",
                Clocks.built(1, 0, 0, 1, 0, 2, 0, 3, 0, 4, 0, 5, 0, 6, 0, 7, 0, 8, 0),
                0, 1, 9, 2, 3, 4, 10, 11, 5, 6, 7, 8, 13, 14, 12, 15);
        CHECK.about("Terms, the first half left, whatever the numbers");
        CHECK.joins("three by falling x", Clocks.built(1, 2, 0, 1, 0, 0, 0), 2, 1, 3, 0);
        CHECK.joins("five by falling x", Clocks.built(1, 4, 0, 3, 0, 2, 0, 1, 0, 0, 0),
                4, 3, 5, 2, 1, 0, 6, 7);
    }

    // By x 0 to 4 are first, by y 4, 3 and 2 of these, and of these by x 2 and 3.
    private static void cutsByTurns() {
        CHECK.about("Terms, by x, if the row was cut an even number of times before, else by y");
        EvenClock clock = Clocks.built(1,
                0, 4, 1, 3, 2, 2, 3, 1, 4, 0, 9, 4, 8, 3, 7, 2, 6, 1, 5, 0);
        CHECK.joins("ten", clock,
                3, 2, 10, 4, 0, 1, 11, 12, 9, 8, 14, 7, 6, 5, 15, 16, 13, 17);
    }

    // The root's region is u 2048, v -2048 to 2048.
    private static void sourceAt(int x, int y, int wire, int u, int v) {
        EvenClock clock = Clocks.of(0, 0, 2, 2);
        clock.source(x, y);
        clock.build(0);
        CHECK.parts("source " + x + ", " + y, clock, 2,
                0, 1, -1, 2048, 2048, -2048, 2048, 2048, wire, u, v);
    }

    private static void sourceInRootRegion() {
        CHECK.about("Terms, the root stands nearest to the source, inside its region");
        sourceAt(1, 1, 0, 2048, 0);
        CHECK.about("Terms, the root stands nearest to the source, on its region's edge");
        sourceAt(2, 0, 0, 2048, 2048);
        sourceAt(0, 2, 0, 2048, -2048);
    }

    private static void sourceOutsideRootRegion() {
        CHECK.about("Terms, the root stands nearest to the source, outside by u");
        sourceAt(0, 0, 2048, 2048, 0);
        sourceAt(0, 1, 1024, 2048, -1024);
        sourceAt(1, 0, 1024, 2048, 1024);
        sourceAt(2, 2, 2048, 2048, 0);
        sourceAt(200, 200, 407552, 2048, 0);
        CHECK.about("Terms, the root stands nearest to the source, outside by u and v");
        sourceAt(3, 0, 1024, 2048, 2048);
        sourceAt(0, 3, 1024, 2048, -2048);
        sourceAt(200, 0, 202752, 2048, 2048);
        sourceAt(0, 200, 202752, 2048, -2048);
    }

    // Two and two: left u 2048 and v -2048 to 2048, right u 22528 and v 18432 to 22528, the root
    // u 12288 and v 8192 to 12288.
    private static void placesNearestToParent() {
        CHECK.about("Terms, any other node at that nearest to where its parent stands");
        EvenClock clock = Clocks.of(0, 0, 2, 2, 20, 0, 22, 2);
        clock.build(1);
        CHECK.parts("left", clock, 4,
                0, 1, 6, 2048, 2048, -2048, 2048, 2048, 10240, 2048, 2048);
        CHECK.parts("right", clock, 5,
                2, 3, 6, 22528, 22528, 18432, 22528, 2048, 10240, 22528, 18432);
        CHECK.parts("root", clock, 6,
                4, 5, -1, 12288, 12288, 8192, 12288, 12288, 12288, 12288, 8192);
        clock.source(10, 0);
        clock.build(1);
        CHECK.parts("root below 10, 0", clock, 6,
                4, 5, -1, 12288, 12288, 8192, 12288, 12288, 2048, 12288, 10240);
        CHECK.same("left's v is at its edge", 2048, clock.node(4, 10));
        CHECK.same("right's v is at its edge", 18432, clock.node(5, 10));
        EvenClock inside = Clocks.built(1, 0, 0, 1, 9, 2, 9);
        CHECK.same("the root's v", -2560, inside.node(4, 10));
        CHECK.same("3's v is at its edge", -3072, inside.node(3, 10));
        inside.source(0, 4);
        inside.build(1);
        CHECK.same("the root's v, from the source's", -4096, inside.node(4, 10));
        CHECK.same("3's v, from the root's", -4096, inside.node(3, 10));
        EvenClock wideInU = Clocks.built(1, mirrored(0, 0, 1, 9, 2, 9));
        CHECK.same("the root's u", 14848, wideInU.node(4, 9));
        CHECK.same("3's u is at its edge", 15360, wideInU.node(3, 9));
        wideInU.source(0, 16);
        wideInU.build(1);
        CHECK.same("the root's u, from the source's", 16384, wideInU.node(4, 9));
        CHECK.same("3's u, from the root's", 16384, wideInU.node(3, 9));
        wideInU.source(100, 100);
        wideInU.build(1);
        CHECK.same("the root's u at its other edge", 17920, wideInU.node(4, 9));
        CHECK.same("3's u at its other edge", 17408, wideInU.node(3, 9));
    }

    private static void sourceMirrored(int x, int y, int wire, int u, int v) {
        EvenClock clock = Clocks.of(0, 2, 2, 0);
        clock.source(x, y);
        clock.build(0);
        CHECK.parts("source " + x + ", " + y, clock, 2,
                0, 1, -1, 0, 4096, 0, 0, 2048, wire, u, v);
    }

    // The root's region is u 0 to 4096, v 0.
    private static void sourceOutsideWideRegion() {
        CHECK.about("Terms, the root stands nearest to the source, inside a region wide in u");
        sourceMirrored(1, 1, 0, 2048, 0);
        sourceMirrored(0, 0, 0, 0, 0);
        sourceMirrored(2, 2, 0, 4096, 0);
        CHECK.about("Terms, the root stands nearest to the source, outside a region wide in u");
        sourceMirrored(1, 0, 1024, 1024, 0);
        sourceMirrored(0, 1, 1024, 1024, 0);
        sourceMirrored(3, 3, 2048, 4096, 0);
        sourceMirrored(200, 200, 405504, 4096, 0);
        sourceMirrored(5, 0, 5120, 4096, 0);
        sourceMirrored(0, 5, 5120, 4096, 0);
    }

    // The root bears 12288 and the wire to it is 2048 long.
    private static void whatIsShown() {
        CHECK.about("Terms, What a node SHOWS: a join with a buffer 1024 times its input");
        EvenClock clock = Clocks.pair();
        clock.set(2, true);
        for (int input : new int[] {1, 11, 12, 13, 1000000}) {
            clock.buffer(input, 1, 0);
            CHECK.same("borne", 12288, clock.load(2, false));
            CHECK.same("shown with input " + input, 1024L * input, clock.load(2, true));
        }
        CHECK.about("Terms, What a node SHOWS: any other node what it bears");
        CHECK.same("shown by a sink", 5120, clock.load(1, true));
        clock.set(2, false);
        CHECK.same("shown without a buffer", 12288, clock.load(2, true));
    }

    // The delays 71303168 and 79691776 differ by just 8 * 1048576.
    private static void leastSlackOfSinks() {
        CHECK.about("Terms, that of the tree is the least one of its sinks");
        int[][] needs = {{100, 100}, {92, 100}, {91, 100}, {93, 100}};
        long[] due = {25165824, 25165824, 24117248, 25165824};
        for (int k = 0; k < due.length; k++) {
            EvenClock clock = new EvenClock();
            clock.sink(0, 0, 3, needs[k][0]);
            clock.sink(4, 0, 5, needs[k][1]);
            clock.build(0);
            CHECK.same("needs " + needs[k][0] + " and " + needs[k][1], due[k], clock.slack());
        }
    }

    // Without a buffer 1 has 79691776 of delay, with one of delay 0 it has 33579008.
    private static void bufferThatIsJustAsGood() {
        EvenClock clock = Clocks.pair();
        CHECK.about("Terms, The BEST one is that with the greatest slack: greater by one with 1");
        clock.buffer(1, 1, 46112767);
        CHECK.same("best", 25165825, clock.best());
        CHECK.same("improve", 1, clock.improve());
        CHECK.about("Terms, of several the one with the least number: 0 and 1");
        clock.buffer(1, 1, 46112768);
        CHECK.same("slack with it", 25165824, clock.slack());
        CHECK.same("best", 25165824, clock.best());
        CHECK.same("improve", 0, clock.improve());
        CHECK.same("slack without it", 25165824, clock.slack());
        CHECK.about("Terms, The BEST one is that with the greatest slack: greater by one with 0");
        clock.set(2, true);
        clock.buffer(1, 1, 46112769);
        CHECK.same("slack", 25165823, clock.slack());
        CHECK.same("best", 25165824, clock.best());
        CHECK.same("improve", 0, clock.improve());
    }

    /** The far sink decides, and a buffer of input 2 shows what the near ones' join bears. */
    private static EvenClock twoNearOneFar(int sourceX, int sourceY) {
        EvenClock clock = new EvenClock();
        clock.source(sourceX, sourceY);
        clock.sink(2, 0, 1, 1000000);
        clock.sink(2, 0, 1, 1000000);
        clock.sink(100, 100, 1, 0);
        clock.build(0);
        return clock;
    }

    private static void slacks(EvenClock clock, long... due) {
        for (int setting = 0; setting < due.length; setting++) {
            for (int join = clock.sinks(); join < 2 * clock.sinks() - 1; join++) {
                clock.set(join, (setting >> (join - clock.sinks()) & 1) == 1);
            }
            CHECK.same("setting", setting, clock.setting());
            CHECK.same("slack with setting " + setting, due[setting], clock.slack());
        }
    }

    // The root stands at the source, so that a buffer there only hurts, by twice the 205824 that it
    // bears; the wire to the far sink is 101376 long.
    private static void sameSlackWithoutAndWith() {
        CHECK.about("Terms, of several the one with the least number: 0 and 1, not 2 and 3");
        EvenClock clock = twoNearOneFar(51, 50);
        clock.buffer(2, 1, 0);
        CHECK.same("wire above the root", 0, clock.node(4, 8));
        slacks(clock, -10484711424L, -10484711424L, -10485123072L, -10485123072L);
        CHECK.same("best", -10484711424L, clock.best());
        CHECK.same("improve from 3", 0, clock.improve());
        clock.set(3, true);
        CHECK.same("improve from 1", 0, clock.improve());
        CHECK.same("setting", 0, clock.setting());
    }

    private static void sameSlackOfTwoSettings() {
        CHECK.about("Terms, of several the one with the least number: 1 and 2, not 0 and 3");
        EvenClock clock = new EvenClock();
        clock.sink(0, 1, 3, 0);
        clock.sink(0, 1, 3, 0);
        clock.sink(0, 0, 1, 0);
        clock.source(1, 1);
        clock.build(0);
        clock.buffer(3, 768, 0);
        CHECK.joins("as is worked out", clock, 0, 1, 2, 3);
        slacks(clock, -34078720, -30932992, -30932992, -32505856);
        CHECK.same("best", -30932992, clock.best());
        CHECK.same("improve", 1, clock.improve());
        clock.set(3, false);
        clock.set(4, true);
        CHECK.same("improve from 2", 1, clock.improve());
        CHECK.same("setting", 1, clock.setting());
    }

    // Both wires of the far sink's way are 101376 long, and the root bears 205824.
    private static void sameSlackOfMoreBuffers() {
        CHECK.about("Terms, of several the one with the least number: 2 and 3, not 0 and 1");
        EvenClock clock = twoNearOneFar(2, 0);
        clock.buffer(2, 1000, 1000000000);
        slacks(clock, -62493032448L, -62493032448L, -22588688896L, -22588688896L);
        CHECK.same("best", -22588688896L, clock.best());
        CHECK.same("improve from 3", 2, clock.improve());
        clock.build(0);
        CHECK.same("improve from 0", 2, clock.improve());
        CHECK.same("setting", 2, clock.setting());
    }

    // Without wires a buffer only hurts, and only sinks below it; 0 decides and has 10, 15, 17 and
    // 18 above it, so any of the other five joins' 32 settings has a slack of 0.
    private static void sameSlackOfManySettings() {
        CHECK.about("Terms, of several the one with the least number: 32 of 512");
        EvenClock clock = new EvenClock();
        for (int k = 0; k < 10; k++) {
            clock.sink(0, 0, 1, k == 0 ? 0 : 1000000);
        }
        clock.build(0);
        for (int join : new int[] {11, 12, 13, 14, 16}) {
            clock.set(join, true);
            CHECK.same("slack with " + join, 0, clock.slack());
        }
        CHECK.same("best", 0, clock.best());
        CHECK.same("improve", 0, clock.improve());
        for (int join : new int[] {10, 15, 17, 18}) {
            clock.set(join, true);
            CHECK.that("slack with " + join, clock.slack() < 0);
        }
        CHECK.same("improve again", 0, clock.improve());
    }

    private static void lookingForBestChangesNothing() {
        CHECK.about("17, The slack of the tree with the BEST setting, the present one staying");
        EvenClock clock = Clocks.manyBuilt(7, 0);
        clock.set(9, true);
        int setting = clock.setting();
        long slack = clock.slack();
        long borne = clock.load(12, false);
        long delay = clock.delay(6);
        long best = clock.best();
        CHECK.same("setting", setting, clock.setting());
        CHECK.same("slack", slack, clock.slack());
        CHECK.same("borne", borne, clock.load(12, false));
        CHECK.same("delay", delay, clock.delay(6));
        clock.improve();
        CHECK.same("slack of the best", best, clock.slack());
        CHECK.same("best of the best", best, clock.best());
    }
}
