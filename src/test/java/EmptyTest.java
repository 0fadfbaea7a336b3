/** Empty: no sinks, sinks without a tree, and the tree of one sink, which has no joins. */
public final class EmptyTest {
    private static final Check CHECK = new Check("EmptyTest");

    public static void main(String[] args) {
        newObject();
        newObjectsStandApart();
        cutToNone();
        buildOfNone();
        valuesAtFirst();
        for (int way = 0; way <= 1; way++) {
            treeOfOne(way);
            circuitOfOne(way);
            oneAtTheSource(way);
        }
        CHECK.end();
    }

    private static void newObject() {
        CHECK.about("1, No sinks, no tree");
        EvenClock clock = new EvenClock();
        CHECK.same("sinks", 0, clock.sinks());
        CHECK.noTree("a new object", clock);
        CHECK.same("the first sink", 0, clock.sink(1, 1, 1, 1));
    }

    private static void newObjectsStandApart() {
        CHECK.about("1, No sinks, no tree, whatever stands in another object");
        EvenClock first = Clocks.manyBuilt(10, 0);
        first.set(12, true);
        EvenClock second = new EvenClock();
        CHECK.same("sinks", 0, second.sinks());
        CHECK.noTree("a second object", second);
        second.source(9, 9);
        second.wires(9, 9);
        second.buffer(9, 9, 9);
        second.sink(9, 9, 9, 9);
        second.sink(8, 8, 8, 8);
        second.build(1);
        second.set(2, true);
        CHECK.same("the first one's setting", 4, first.setting());
        EvenClock like = Clocks.manyBuilt(10, 0);
        like.set(12, true);
        CHECK.that("the first one's tree is not as before",
                Answers.ofTree(like).equals(Answers.ofTree(first)));
        CHECK.that("the first one's loads and delays are not as before",
                Answers.ofCircuit(like).equals(Answers.ofCircuit(first)));
    }

    private static void cutToNone() {
        CHECK.about("3, Only the first n sinks stay, n being 0");
        EvenClock none = new EvenClock();
        CHECK.passes("cut(0) of no sinks", () -> none.cut(0));
        CHECK.fails("cut(1) of no sinks", Due.ARGUMENT, () -> none.cut(1));
        CHECK.same("sinks", 0, none.sinks());
        EvenClock clock = Clocks.manyBuilt(10, 0);
        clock.cut(0);
        CHECK.same("sinks that are left", 0, clock.sinks());
        CHECK.noTree("cut to none", clock);
        CHECK.fails("another cut", Due.ARGUMENT, () -> clock.cut(1));
        for (int k = 0; k < 10; k++) {
            CHECK.same("numbers begin anew", k, clock.sink(k, k, 1, 0));
        }
    }

    private static void buildOfNone() {
        CHECK.about("8, NoSuchElementException when there is no sink");
        EvenClock fresh = new EvenClock();
        EvenClock emptied = Clocks.manyBuilt(3, 0);
        emptied.cut(0);
        for (EvenClock clock : new EvenClock[] {fresh, emptied}) {
            for (int way = 0; way <= 1; way++) {
                int by = way;
                CHECK.fails("build(" + way + ")", Due.NO_ELEMENT, () -> clock.build(by));
            }
            CHECK.noTree("nothing was built", clock);
            for (int way : new int[] {-1, 2, Integer.MIN_VALUE, Integer.MAX_VALUE}) {
                CHECK.fails("build(" + way + ")", Due.ARGUMENT, () -> clock.build(way));
            }
        }
    }

    private static void valuesAtFirst() {
        CHECK.about("Terms, The SOURCE has x and y, at first both 0");
        EvenClock clock = Clocks.built(0, 3, 5);
        CHECK.same("wire above the root", 8192, clock.node(0, 8));
        CHECK.about("Terms, RESISTANCE r and CAPACITY c, at first 1");
        CHECK.same("delay", 8192 * (8192 + 2048), clock.delay(0));
        CHECK.about("Terms, a BUFFER at first 1, 1 and 0");
        EvenClock pair = Clocks.pair();
        pair.set(2, true);
        CHECK.same("shown", 1024, pair.load(2, true));
        CHECK.same("delay", 2048 * 4096 + 24576 + 2048 * 12288, pair.delay(1));
        CHECK.about("Terms, At each join there is a buffer or not, at first none");
        for (int sinks = 1; sinks <= 10; sinks++) {
            CHECK.same("of " + sinks + ", setting", 0, Clocks.manyBuilt(sinks, 0).setting());
            CHECK.same("of " + sinks + ", setting", 0, Clocks.manyBuilt(sinks, 1).setting());
        }
    }

    private static EvenClock one() {
        EvenClock clock = new EvenClock();
        clock.sink(3, 5, 2, 7);
        clock.source(10, 1);
        return clock;
    }

    // The source is at u 11264, v 9216.
    private static void treeOfOne(int way) {
        EvenClock clock = one();
        CHECK.about("8, how many nodes it has, of one sink");
        CHECK.same("build(" + way + ")", 1, clock.build(way));
        CHECK.about("9, Of a node, which is the only sink and the root");
        CHECK.parts("alone", clock, 0,
                -1, -1, -1, 8192, 8192, -2048, -2048, 0, 11264, 8192, -2048);
        CHECK.fails("a second node", Due.INDEX, () -> clock.node(1, 0));
        CHECK.about("10, The sum of the lengths of all wires, the one above the root");
        CHECK.same("length", 11264, clock.length());
        CHECK.about("11, How many joins are above a sink, which is the root");
        CHECK.same("depth", 0, clock.depth(0));
        CHECK.fails("a second depth", Due.INDEX, () -> clock.depth(1));
    }

    private static void circuitOfOne(int way) {
        EvenClock clock = one();
        clock.build(way);
        CHECK.about("12, IndexOutOfBoundsException when there is no such join, there being none");
        for (int k : new int[] {-1, 0, 1, 2}) {
            CHECK.fails("set on", Due.INDEX, () -> clock.set(k, true));
            CHECK.fails("set off", Due.INDEX, () -> clock.set(k, false));
        }
        CHECK.about("13, The number of the present setting, without joins");
        CHECK.same("setting", 0, clock.setting());
        CHECK.about("14, What a node bears, or shows, which is a sink");
        CHECK.same("borne", 2048, clock.load(0, false));
        CHECK.same("shown", 2048, clock.load(0, true));
        CHECK.about("15, The delay of a sink, by the wire above the root alone");
        CHECK.same("delay", 11264 * (11264 + 4096), clock.delay(0));
        clock.buffer(1000, 1000, 1000);
        CHECK.same("no buffer is in the way", 173015040, clock.delay(0));
        CHECK.about("16, The slack of the tree, that of its one sink");
        CHECK.same("slack", 7 * 1048576 - 173015040, clock.slack());
        CHECK.about("17, The slack of the tree with the BEST setting, the only one");
        CHECK.same("best", -165675008, clock.best());
        CHECK.about("18, The present setting becomes the BEST one, the only one");
        CHECK.same("improve", 0, clock.improve());
        CHECK.same("setting", 0, clock.setting());
    }

    private static void oneAtTheSource(int way) {
        CHECK.about("Terms, The wire above the root is as long as it is from the source, none");
        EvenClock clock = one();
        clock.source(3, 5);
        clock.build(way);
        CHECK.same("wire", 0, clock.node(0, 8));
        CHECK.same("length", 0, clock.length());
        CHECK.same("delay", 0, clock.delay(0));
        CHECK.same("slack", 7340032, clock.slack());
        CHECK.same("best", 7340032, clock.best());
    }
}
