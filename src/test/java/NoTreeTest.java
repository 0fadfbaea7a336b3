import java.util.function.Consumer;

/** No tree: before one is built, and after sink, cut and source that did not throw. */
public final class NoTreeTest {
    private static final Check CHECK = new Check("NoTreeTest");

    public static void main(String[] args) {
        beforeBuilding();
        for (int sinks = 1; sinks <= 10; sinks++) {
            for (int way = 0; way <= 1; way++) {
                sinkEndsIt(sinks, way);
                cutEndsIt(sinks, way);
                sourceEndsIt(sinks, way);
                othersLeaveIt(sinks, way);
            }
        }
        endedTwice();
        nothingElseEnds();
        builtAnew();
        CHECK.end();
    }

    private static void beforeBuilding() {
        CHECK.about("9 to 18, IllegalStateException when there is no tree, before one is built");
        CHECK.noTree("a new object", new EvenClock());
        EvenClock clock = new EvenClock();
        clock.source(1, 2);
        clock.wires(3, 4);
        clock.buffer(5, 6, 7);
        CHECK.noTree("all but sinks", clock);
        for (int sinks = 1; sinks <= 10; sinks++) {
            CHECK.noTree(sinks + " sinks", Clocks.many(sinks));
        }
        EvenClock refused = Clocks.many(2);
        CHECK.fails("a third way", Due.ARGUMENT, () -> refused.build(2));
        CHECK.noTree("a refused build", refused);
    }

    private static void ends(String what, int sinks, int way, Consumer<EvenClock> call) {
        EvenClock clock = Clocks.manyBuilt(sinks, way);
        CHECK.passes("the tree of " + sinks, clock::length);
        call.accept(clock);
        CHECK.noTree(what + " of " + sinks + " by way " + way, clock);
    }

    private static void sinkEndsIt(int sinks, int way) {
        CHECK.about("Terms, sink, cut and source end the tree: sink");
        if (sinks < 10) {
            ends("a sink more", sinks, way, clock -> clock.sink(0, 0, 1, 0));
            ends("a sink where one is", sinks, way, clock -> clock.sink(7, 3, 2, 100));
        } else {
            EvenClock clock = Clocks.manyBuilt(sinks, way);
            CHECK.fails("an eleventh", Due.UNSUPPORTED, () -> clock.sink(0, 0, 1, 0));
            CHECK.passes("the tree stands behind it", clock::length);
        }
    }

    private static void cutEndsIt(int sinks, int way) {
        CHECK.about("Terms, sink, cut and source end the tree: cut");
        ends("cut to none", sinks, way, clock -> clock.cut(0));
        ends("cut by one", sinks, way, clock -> clock.cut(sinks - 1));
        ends("cut to as many as there are", sinks, way, clock -> clock.cut(sinks));
    }

    private static void sourceEndsIt(int sinks, int way) {
        CHECK.about("Terms, sink, cut and source end the tree: source");
        ends("source elsewhere", sinks, way, clock -> clock.source(200, 200));
        ends("source where it is", sinks, way, clock -> clock.source(0, 0));
    }

    private static void othersLeaveIt(int sinks, int way) {
        CHECK.about("Terms, sink, cut and source end the tree, and no other call");
        EvenClock clock = Clocks.manyBuilt(sinks, way);
        int length = clock.length();
        int setting = (1 << (sinks - 1)) - 1;
        for (int join = sinks; join < 2 * sinks - 1; join++) {
            clock.set(join, true);
        }
        clock.wires(20, 20);
        CHECK.same("length behind wires", length, clock.length());
        CHECK.same("setting behind wires", setting, clock.setting());
        clock.buffer(1000, 1000, 1000);
        CHECK.same("length behind buffer", length, clock.length());
        CHECK.same("setting behind buffer", setting, clock.setting());
        clock.best();
        clock.slack();
        clock.sinks();
        CHECK.same("setting behind best, slack and sinks", setting, clock.setting());
        clock.improve();
        CHECK.same("length behind improve", length, clock.length());
        CHECK.fails("cut", Due.ARGUMENT, () -> clock.cut(sinks + 1));
        CHECK.fails("sink", Due.ARGUMENT, () -> clock.sink(201, 0, 1, 0));
        CHECK.fails("source", Due.ARGUMENT, () -> clock.source(0, 201));
        CHECK.fails("build", Due.ARGUMENT, () -> clock.build(2));
        CHECK.same("length behind refused calls", length, clock.length());
    }

    private static void endedTwice() {
        CHECK.about("Terms, sink, cut and source end the tree, one after the other");
        EvenClock clock = Clocks.manyBuilt(3, 0);
        clock.source(5, 5);
        clock.cut(3);
        clock.sink(1, 1, 1, 1);
        CHECK.noTree("ended by all three", clock);
        CHECK.same("built again", 7, clock.build(0));
        CHECK.passes("the tree", clock::length);
    }

    /** What is ended is the tree alone: a clock that was told the same otherwise is no other. */
    private static void nothingElseEnds() {
        CHECK.about("Terms, sink, cut and source end the tree, and change nothing else");
        EvenClock clock = told(Clocks.manyBuilt(5, 0));
        clock.build(0);
        clock.sink(1, 1, 1, 1);
        clock.build(0);
        clock.cut(0);
        clock.cut(0);
        for (int k = 0; k < 3; k++) {
            clock.sink(9 * k, 4 * k, 3, 50);
        }
        clock.build(1);
        EvenClock like = told(new EvenClock());
        for (int k = 0; k < 3; k++) {
            like.sink(9 * k, 4 * k, 3, 50);
        }
        like.build(1);
        CHECK.that("the source was lost", Answers.ofTree(like).equals(Answers.ofTree(clock)));
        CHECK.that("the wires were lost", Answers.ofCircuit(like).equals(Answers.ofCircuit(clock)));
        CHECK.that("the buffer was lost", Answers.ofLater(like).equals(Answers.ofLater(clock)));
    }

    private static EvenClock told(EvenClock clock) {
        clock.source(20, 7);
        clock.wires(2, 3);
        clock.buffer(4, 5, 6);
        return clock;
    }

    private static void builtAnew() {
        CHECK.about("8, Builds the tree, anew after it was ended or while it stands");
        EvenClock clock = Clocks.pair();
        clock.set(2, true);
        clock.cut(2);
        clock.build(0);
        CHECK.same("setting after cut", 0, clock.setting());
        clock.set(2, true);
        clock.source(0, 0);
        clock.build(0);
        CHECK.same("setting after source", 0, clock.setting());
        clock.set(2, true);
        clock.build(0);
        CHECK.same("setting after build", 0, clock.setting());
        EvenClock like = Clocks.pair();
        CHECK.that("the tree built anew is another one",
                Answers.ofTree(like).equals(Answers.ofTree(clock)));
        EvenClock halved = Clocks.manyBuilt(10, 0);
        halved.build(1);
        CHECK.that("a tree by way 0 shows in the one by way 1",
                Answers.ofTree(Clocks.manyBuilt(10, 1)).equals(Answers.ofTree(halved)));
    }
}
