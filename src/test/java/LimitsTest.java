import java.util.function.ObjIntConsumer;
import java.util.function.Supplier;

/**
 * Too small, too large: the last number that is allowed and the first that is not, at both ends,
 * and the least and the greatest int.
 */
public final class LimitsTest {
    private static final Check CHECK = new Check("LimitsTest");

    public static void main(String[] args) {
        sinkTakesItsLimits();
        sinkIsWhatWasTaken();
        cutTakesItsLimits();
        cutKeepsTheFirst();
        sourceTakesItsLimits();
        sourceIsWhatWasTaken();
        wiresTakeTheirLimits();
        wiresAreWhatWasTaken();
        bufferTakesItsLimits();
        bufferIsWhatWasTaken();
        buildTakesItsWays();
        numbersInTrees();
        numbersInTreesAfterLargerOnes();
        numbersThatWrapAround();
        largestNumbers();
        lastOf512Calls();
        CHECK.end();
    }

    /** Every number is tried on a clock of its own. */
    private static void limits(String what, int least, int most,
            Class<? extends RuntimeException> due, Supplier<EvenClock> made,
            ObjIntConsumer<EvenClock> call) {
        for (int number : new int[] {least, most}) {
            EvenClock clock = made.get();
            CHECK.passes(what + " " + number, () -> call.accept(clock, number));
        }
        int[] beyond = {least - 1, most + 1, Integer.MIN_VALUE, Integer.MAX_VALUE};
        for (int number : beyond) {
            EvenClock clock = made.get();
            CHECK.fails(what + " " + number, due, () -> call.accept(clock, number));
        }
    }

    private static void limits(String what, int least, int most, ObjIntConsumer<EvenClock> call) {
        limits(what, least, most, Due.ARGUMENT, EvenClock::new, call);
    }

    private static void sinkTakesItsLimits() {
        CHECK.about("2, IllegalArgumentException when x, y, load or need is not as said");
        limits("x", 0, 200, (clock, x) -> clock.sink(x, 5, 5, 5));
        limits("y", 0, 200, (clock, y) -> clock.sink(5, y, 5, 5));
        limits("load", 1, 100, (clock, load) -> clock.sink(5, 5, load, 5));
        limits("need", 0, 1000000000, (clock, need) -> clock.sink(5, 5, 5, need));
    }

    private static void sinkIsWhatWasTaken() {
        CHECK.about("2, A new sink, at the ends of its limits");
        int[][] corners = {
            {0, 0, 0, 0}, {200, 0, 204800, 204800},
            {0, 200, 204800, -204800}, {200, 200, 409600, 0},
        };
        for (int[] corner : corners) {
            EvenClock clock = Clocks.built(0, corner[0], corner[1]);
            CHECK.same("u", corner[2], clock.node(0, 3));
            CHECK.same("v", corner[3], clock.node(0, 5));
        }
        EvenClock clock = new EvenClock();
        clock.sink(0, 0, 1, 0);
        clock.build(0);
        CHECK.same("load 1", 1024, clock.load(0, false));
        CHECK.same("need 0", 0, clock.slack());
        clock.cut(0);
        clock.sink(0, 0, 100, 1000000000);
        clock.build(0);
        CHECK.same("load 100", 102400, clock.load(0, false));
        CHECK.same("need 1000000000", 1048576000000000L, clock.slack());
    }

    private static void cutTakesItsLimits() {
        CHECK.about("3, IllegalArgumentException when n is negative, or there are not so many");
        for (int sinks = 0; sinks <= 10; sinks++) {
            int there = sinks;
            limits("of " + sinks + ", cut", 0, sinks, Due.ARGUMENT,
                    () -> Clocks.many(there), EvenClock::cut);
        }
    }

    private static void cutKeepsTheFirst() {
        CHECK.about("3, Only the first n sinks stay");
        for (int n = 0; n <= 10; n++) {
            EvenClock clock = Clocks.many(10);
            clock.cut(n);
            CHECK.same("sinks after cut(" + n + ")", n, clock.sinks());
            int more = n + 1;
            CHECK.fails("a cut to one that is gone", Due.ARGUMENT, () -> clock.cut(more));
            if (n > 0) {
                clock.build(0);
                EvenClock fewer = Clocks.manyBuilt(n, 0);
                CHECK.that("the tree of " + n + " that stayed is not the tree of these",
                        Answers.ofTree(fewer).equals(Answers.ofTree(clock)));
                CHECK.same("its slack", fewer.slack(), clock.slack());
            }
        }
    }

    private static void sourceTakesItsLimits() {
        CHECK.about("4, IllegalArgumentException when x or y is not as said");
        limits("x", 0, 200, (clock, x) -> clock.source(x, 5));
        limits("y", 0, 200, (clock, y) -> clock.source(5, y));
    }

    private static void sourceIsWhatWasTaken() {
        CHECK.about("4, Where the source is, at the ends of its limits");
        int[][] corners = {{0, 0, 4096}, {200, 0, 206848}, {0, 200, 202752}, {200, 200, 405504}};
        for (int[] corner : corners) {
            EvenClock clock = Clocks.of(1, 3);
            clock.source(corner[0], corner[1]);
            clock.build(0);
            CHECK.same("the wire from " + corner[0] + ", " + corner[1], corner[2], clock.length());
        }
    }

    private static void wiresTakeTheirLimits() {
        CHECK.about("5, IllegalArgumentException when one is not as said");
        limits("r", 1, 20, (clock, r) -> clock.wires(r, 5));
        limits("c", 1, 20, (clock, c) -> clock.wires(5, c));
    }

    private static void wiresAreWhatWasTaken() {
        CHECK.about("5, Resistance and capacity of wires from now on, at the ends of their limits");
        EvenClock clock = Clocks.built(0, 1, 0);
        CHECK.same("delay at first", 3145728, clock.delay(0));
        clock.wires(20, 1);
        CHECK.same("delay with 20, 1", 62914560, clock.delay(0));
        clock.wires(1, 20);
        CHECK.same("delay with 1, 20", 23068672, clock.delay(0));
        clock.wires(20, 20);
        CHECK.same("delay with 20, 20", 461373440, clock.delay(0));
        clock.wires(1, 1);
        CHECK.same("delay with 1, 1", 3145728, clock.delay(0));
    }

    private static void bufferTakesItsLimits() {
        CHECK.about("6, IllegalArgumentException when one is not as said");
        limits("input", 1, 1000000, (clock, input) -> clock.buffer(input, 5, 5));
        limits("drive", 1, 1000, (clock, drive) -> clock.buffer(5, drive, 5));
        limits("delay", 0, 1000000000, (clock, delay) -> clock.buffer(5, 5, delay));
    }

    private static void bufferIsWhatWasTaken() {
        CHECK.about("6, The buffer from now on, at the ends of its limits");
        EvenClock clock = Clocks.pair();
        clock.set(2, true);
        CHECK.same("delay at first", 33579008, clock.delay(1));
        clock.buffer(1000000, 1, 0);
        CHECK.same("shown with input 1000000", 1024000000, clock.load(2, true));
        CHECK.same("delay with input 1000000", 4194333384704L, clock.delay(1));
        clock.buffer(1, 1000, 0);
        CHECK.same("delay with drive 1000", 58130432, clock.delay(1));
        clock.buffer(1, 1, 1000000000);
        CHECK.same("delay with delay 1000000000", 1033579008, clock.delay(1));
        clock.buffer(1, 1, 0);
        CHECK.same("shown with input 1", 1024, clock.load(2, true));
        CHECK.same("delay with 1, 1, 0", 33579008, clock.delay(1));
    }

    private static void buildTakesItsWays() {
        CHECK.about("8, IllegalArgumentException when way is not 0 or 1");
        for (int sinks = 1; sinks <= 10; sinks++) {
            int there = sinks;
            limits("of " + sinks + ", way", 0, 1, Due.ARGUMENT,
                    () -> Clocks.many(there), EvenClock::build);
        }
    }

    private static void numbersInTrees() {
        for (int sinks = 1; sinks <= 10; sinks++) {
            int there = sinks;
            numbers(sinks, () -> Clocks.manyBuilt(there, 0));
            numbers(sinks, () -> Clocks.manyBuilt(there, 1));
        }
    }

    /** Rows of a larger tree that stood before must not be taken for nodes. */
    private static void numbersInTreesAfterLargerOnes() {
        for (int sinks = 1; sinks < 10; sinks++) {
            int there = sinks;
            numbers(sinks, () -> {
                EvenClock clock = Clocks.manyBuilt(10, 1);
                clock.cut(there);
                clock.build(0);
                return clock;
            });
        }
    }

    private static void numbers(int sinks, Supplier<EvenClock> made) {
        String of = "of " + sinks + ", ";
        int lastSink = sinks - 1;
        int root = 2 * sinks - 2;
        CHECK.about("9, IndexOutOfBoundsException when there is no such node or part");
        limits(of + "node", 0, root, Due.INDEX, made, (clock, k) -> clock.node(k, 0));
        limits(of + "part of 0", 0, 10, Due.INDEX, made, (clock, part) -> clock.node(0, part));
        limits(of + "part of the root", 0, 10, Due.INDEX, made,
                (clock, part) -> clock.node(root, part));
        CHECK.about("11, IndexOutOfBoundsException when there is no such sink");
        limits(of + "depth", 0, lastSink, Due.INDEX, made, EvenClock::depth);
        CHECK.about("14, IndexOutOfBoundsException when there is no such node");
        limits(of + "borne", 0, root, Due.INDEX, made, (clock, k) -> clock.load(k, false));
        limits(of + "shown", 0, root, Due.INDEX, made, (clock, k) -> clock.load(k, true));
        CHECK.about("15, IndexOutOfBoundsException when there is no such sink");
        limits(of + "delay", 0, lastSink, Due.INDEX, made, EvenClock::delay);
        CHECK.about("12, IndexOutOfBoundsException when there is no such join");
        if (sinks > 1) {
            limits(of + "set on", sinks, root, Due.INDEX, made, (clock, k) -> clock.set(k, true));
            limits(of + "set off", sinks, root, Due.INDEX, made, (clock, k) -> clock.set(k, false));
        } else {
            for (int k = -1; k <= 2; k++) {
                int join = k;
                CHECK.fails("set of one sink", Due.INDEX, () -> made.get().set(join, true));
            }
        }
    }

    /** A shift takes only five bits of its distance: 32 more would be the same join. */
    private static void numbersThatWrapAround() {
        CHECK.about("12, IndexOutOfBoundsException when there is no such join, by wrap-around");
        EvenClock clock = Clocks.manyBuilt(10, 0);
        for (int join = 10; join < 19; join++) {
            int up = join + 32;
            int down = join - 32;
            int round = join + Integer.MIN_VALUE;
            CHECK.fails("set(" + up + ")", Due.INDEX, () -> clock.set(up, true));
            CHECK.fails("set(" + down + ")", Due.INDEX, () -> clock.set(down, true));
            CHECK.fails("set(" + round + ")", Due.INDEX, () -> clock.set(round, true));
        }
        CHECK.same("the setting", 0, clock.setting());
    }

    // From corner to corner: 409600 of wire, 20 * 409600 of resistance and of capacity.
    private static void largestNumbers() {
        CHECK.about("Terms, All numbers stay within a long");
        EvenClock alone = new EvenClock();
        alone.sink(200, 200, 100, 0);
        alone.build(0);
        alone.wires(20, 20);
        CHECK.same("delay of one sink", 68786585600000L, alone.delay(0));
        CHECK.same("slack of one sink", -68786585600000L, alone.slack());
        EvenClock two = new EvenClock();
        two.sink(200, 200, 100, 0);
        two.sink(200, 200, 100, 1000000000);
        two.build(0);
        two.wires(20, 20);
        two.buffer(1000000, 1000, 1000000000);
        two.set(2, true);
        CHECK.same("delay below a buffer", 16844326273600000L, two.delay(0));
        CHECK.same("slack below a buffer", -16844326273600000L, two.slack());
        CHECK.same("best, without it", -70464307200000L, two.best());
    }

    private static void lastOf512Calls() {
        CHECK.about("What it is, An object is used for at most 512 calls");
        EvenClock clock = new EvenClock();
        for (int round = 0; round < 102; round++) {
            CHECK.same("sink of round " + round, 0, clock.sink(round, 0, 1, round));
            CHECK.same("build of round " + round, 1, clock.build(round % 2));
            CHECK.same("length of round " + round, 1024 * round, clock.length());
            clock.source(0, 0);
            clock.cut(0);
        }
        clock.sink(7, 0, 1, 0);
        CHECK.same("the 512th call", 1, clock.build(0));
    }
}
