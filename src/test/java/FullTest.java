/** Full: the tenth sink and the one that is too many, and trees of ten sinks by both ways. */
public final class FullTest {
    private static final Check CHECK = new Check("FullTest");

    public static void main(String[] args) {
        tenthAndEleventh();
        roomAfterCut();
        nodesOfTen();
        tenNearest();
        tenHalved();
        tenAtOnePlace(0, new int[] {0, 1, 2, 3, 4, 5, 6, 7, 8, 9, 10, 11, 12, 13, 14, 15, 16, 17});
        tenAtOnePlace(1, new int[] {0, 1, 10, 2, 3, 4, 11, 12, 5, 6, 14, 7, 8, 9, 15, 16, 13, 17});
        settingsOfTen(0);
        settingsOfTen(1);
        CHECK.end();
    }

    private static void tenthAndEleventh() {
        CHECK.about("2, UnsupportedOperationException when there are ten");
        EvenClock clock = new EvenClock();
        for (int k = 0; k < 10; k++) {
            CHECK.same("sink " + k, k, clock.sink(5, 5, 5, 5));
            CHECK.same("sinks", k + 1, clock.sinks());
        }
        CHECK.fails("an eleventh", Due.UNSUPPORTED, () -> clock.sink(5, 5, 5, 5));
        CHECK.fails("again", Due.UNSUPPORTED, () -> clock.sink(0, 200, 100, 1000000000));
        CHECK.same("sinks", 10, clock.sinks());
        CHECK.about("2, IllegalArgumentException is named before UnsupportedOperationException");
        CHECK.fails("x", Due.ARGUMENT, () -> clock.sink(201, 5, 5, 5));
        CHECK.fails("y", Due.ARGUMENT, () -> clock.sink(5, -1, 5, 5));
        CHECK.fails("load", Due.ARGUMENT, () -> clock.sink(5, 5, 0, 5));
        CHECK.fails("need", Due.ARGUMENT, () -> clock.sink(5, 5, 5, -1));
    }

    private static void roomAfterCut() {
        CHECK.about("2, UnsupportedOperationException when there are ten, not when there were");
        for (int n = 9; n >= 0; n--) {
            EvenClock clock = Clocks.many(10);
            clock.cut(n);
            for (int k = n; k < 10; k++) {
                CHECK.same("sink after cut(" + n + ")", k, clock.sink(5, 5, 5, 5));
            }
            CHECK.fails("an eleventh", Due.UNSUPPORTED, () -> clock.sink(5, 5, 5, 5));
        }
        EvenClock full = Clocks.many(10);
        full.cut(10);
        CHECK.fails("after cut(10)", Due.UNSUPPORTED, () -> full.sink(5, 5, 5, 5));
    }

    private static void nodesOfTen() {
        CHECK.about("8, how many nodes it has, of ten sinks");
        CHECK.same("by way 0", 19, Clocks.many(10).build(0));
        CHECK.same("by way 1", 19, Clocks.many(10).build(1));
    }

    /** In a line all regions are single places with u and v the same. */
    private static void placed(EvenClock clock, int k, int parent, int at, int time, int wire) {
        int grid = 1024;
        CHECK.same("parent of " + k, parent, clock.node(k, 2));
        for (int part : new int[] {3, 4, 5, 6, 9, 10}) {
            CHECK.same("node(" + k + ", " + part + ")", grid * at, clock.node(k, part));
        }
        CHECK.same("time of " + k, grid * time, clock.node(k, 7));
        CHECK.same("wire above " + k, grid * wire, clock.node(k, 8));
    }

    private static void depths(EvenClock clock, int... due) {
        for (int k = 0; k < due.length; k++) {
            CHECK.same("depth of " + k, due[k], clock.depth(k));
        }
    }

    private static void tenNearest() {
        CHECK.about("Terms, BY WAY 0, ten sinks");
        EvenClock clock = Clocks.tenInLine(0);
        CHECK.joins("in a line", clock,
                0, 1, 2, 3, 4, 5, 6, 7, 8, 9, 10, 11, 12, 13, 14, 16, 15, 17);
        placed(clock, 0, 10, 0, 0, 1);
        placed(clock, 9, 14, 82, 0, 1);
        placed(clock, 10, 15, 1, 1, 10);
        placed(clock, 11, 15, 21, 1, 10);
        placed(clock, 12, 16, 41, 1, 10);
        placed(clock, 13, 16, 61, 1, 10);
        placed(clock, 14, 17, 81, 1, 20);
        placed(clock, 15, 18, 11, 11, 30);
        placed(clock, 16, 17, 51, 11, 10);
        placed(clock, 17, 18, 61, 21, 20);
        placed(clock, 18, -1, 41, 41, 41);
        CHECK.same("length", 171 * 1024, clock.length());
        depths(clock, 3, 3, 3, 3, 4, 4, 4, 4, 3, 3);
    }

    private static void tenHalved() {
        CHECK.about("Terms, BY WAY 1, ten sinks");
        EvenClock clock = Clocks.tenInLine(1);
        CHECK.joins("in a line", clock,
                0, 1, 10, 2, 3, 4, 11, 12, 5, 6, 14, 7, 8, 9, 15, 16, 13, 17);
        placed(clock, 10, 11, 1, 1, 9);
        placed(clock, 11, 13, 10, 10, 10);
        placed(clock, 12, 13, 31, 9, 11);
        placed(clock, 13, 18, 20, 20, 21);
        placed(clock, 14, 15, 51, 9, 1);
        placed(clock, 15, 17, 52, 10, 10);
        placed(clock, 16, 17, 81, 1, 19);
        placed(clock, 17, 18, 62, 20, 21);
        placed(clock, 18, -1, 41, 41, 41);
        placed(clock, 2, 11, 20, 0, 10);
        placed(clock, 7, 15, 62, 0, 10);
        int steps = 2 + 9 + 10 + 18 + 10 + 11 + 18 + 1 + 10 + 2 + 10 + 19 + 42 + 41;
        CHECK.same("length", steps * 1024, clock.length());
        depths(clock, 4, 4, 3, 3, 3, 4, 4, 3, 3, 3);
    }

    private static void tenAtOnePlace(int way, int[] due) {
        CHECK.about("Terms, BY WAY " + way + ", ten sinks at one place");
        EvenClock clock = Clocks.built(way,
                7, 2, 7, 2, 7, 2, 7, 2, 7, 2, 7, 2, 7, 2, 7, 2, 7, 2, 7, 2);
        CHECK.joins("at one place", clock, due);
        CHECK.parts("root", clock, 18,
                due[16], due[17], -1, 9216, 9216, 5120, 5120, 0, 9216, 9216, 5120);
        CHECK.same("length", 9216, clock.length());
        CHECK.same("borne by the root", 10240, clock.load(18, false));
    }

    private static void settingsOfTen(int way) {
        CHECK.about("Terms, A SETTING's number is the sum of 1 << (join - n), of nine joins");
        EvenClock clock = Clocks.tenInLine(way);
        int due = 0;
        for (int join = 18; join >= 10; join--) {
            CHECK.that("set(" + join + ")", clock.set(join, true));
            due += 1 << (join - 10);
            CHECK.same("setting", due, clock.setting());
        }
        CHECK.same("setting of all", 511, clock.setting());
        for (int join = 10; join < 19; join++) {
            CHECK.same("shown by " + join, 1024, clock.load(join, true));
            CHECK.that("taken from " + join, clock.set(join, false));
            due -= 1 << (join - 10);
            CHECK.same("setting", due, clock.setting());
        }
    }
}
