import java.util.List;
import java.util.Random;
import java.util.function.BiConsumer;

/**
 * The document's sentences on the tree with wires, in their order and in their words, each held
 * against what clocks answer for many trees and settings.
 */
public final class CircuitSentencesTest {
    private static final Check CHECK = new Check("CircuitSentencesTest");
    private static final List<Grown> FOREST = Grown.forest(600);
    /** So few that a clock is asked for its slack with each of them within 512 calls. */
    private static final int SETTINGS_OF_A_CLOCK = 40;

    private static final int LEFT = 0;
    private static final int RIGHT = 1;
    private static final int PARENT = 2;
    private static final int WIRE = 8;

    public static void main(String[] args) {
        atFirst();
        bearsAndShows();
        delays();
        slacks();
        settings();
        bestOnes();
        fromNowOn();
        CHECK.end();
    }

    /** A clock with a setting, and what it answers for its loads. */
    private static final class Charged {
        final String name;
        final EvenClock clock;
        final int setting;
        final long[] bears;
        final long[] shows;

        Charged(Grown grown, int setting) {
            this.name = grown.name + ", setting " + setting;
            this.clock = grown.again(setting);
            this.setting = setting;
            this.bears = new long[grown.nodes.length];
            this.shows = new long[grown.nodes.length];
            for (int k = 0; k < grown.nodes.length; k++) {
                bears[k] = clock.load(k, false);
                shows[k] = clock.load(k, true);
            }
        }
    }

    private static void holds(String sentence, BiConsumer<Grown, Charged> look) {
        CHECK.about(sentence);
        for (Grown grown : FOREST) {
            Random random = new Random(grown.name.hashCode());
            int all = grown.settings() - 1;
            for (int setting : new int[] {0, all, random.nextInt(all + 1)}) {
                look.accept(grown, new Charged(grown, setting));
            }
        }
    }

    private static boolean hasBuffer(Grown grown, int k, int setting) {
        return k >= grown.sinks && (setting >> (k - grown.sinks) & 1) == 1;
    }

    private static void atFirst() {
        CHECK.about("Terms, WIRES have a RESISTANCE r and a CAPACITY c, at first 1, a BUFFER has an"
                + " INPUT, a DRIVE and a DELAY, at first 1, 1 and 0");
        for (int sinks = 1; sinks <= 10; sinks++) {
            EvenClock clock = Clocks.manyBuilt(sinks, 0);
            EvenClock told = Clocks.manyBuilt(sinks, 0);
            told.wires(1, 1);
            told.buffer(1, 1, 0);
            for (int join = sinks; join < 2 * sinks - 1; join += 2) {
                clock.set(join, true);
                told.set(join, true);
            }
            CHECK.that("of " + sinks + " sinks",
                    Answers.ofCircuit(told).equals(Answers.ofCircuit(clock)));
        }
        CHECK.about("Terms, At each join there is a buffer or not, at first (when the tree is"
                + " built) none");
        for (Grown grown : FOREST) {
            EvenClock clock = grown.again(grown.settings() - 1);
            clock.build(1 - grown.way);
            CHECK.same(grown.name + ": setting", 0, clock.setting());
        }
    }

    private static void bearsAndShows() {
        holds("Terms, What a node BEARS: a sink 1024 times its load", (grown, charged) -> {
            for (int k = 0; k < grown.sinks; k++) {
                CHECK.same(charged.name + ": " + k, 1024L * grown.load[k], charged.bears[k]);
            }
        });
        holds("Terms, a join the sum over its two children of what these SHOW and the capacities of"
                + " the wires above them (of length l c * l)", (grown, charged) -> {
            for (int k = grown.sinks; k < grown.nodes.length; k++) {
                int a = grown.nodes[k][LEFT];
                int b = grown.nodes[k][RIGHT];
                long wires = (long) grown.nodes[a][WIRE] + grown.nodes[b][WIRE];
                CHECK.same(charged.name + ": " + k,
                        charged.shows[a] + charged.shows[b] + grown.c * wires, charged.bears[k]);
            }
            CHECK.that(charged.name + ": nodes", grown.nodes.length >= grown.sinks);
        });
        holds("Terms, What a node SHOWS: a join with a buffer 1024 times its input, any other node"
                + " what it bears", (grown, charged) -> {
            for (int k = 0; k < grown.nodes.length; k++) {
                boolean buffered = hasBuffer(grown, k, charged.setting);
                CHECK.same(charged.name + ": " + k,
                        buffered ? 1024L * grown.input : charged.bears[k], charged.shows[k]);
            }
        });
    }

    private static void delays() {
        CHECK.about("Terms, A wire of length l has the resistance r * l and the capacity c * l. The"
                + " DELAY of a wire is its resistance times (its capacity and twice what the node"
                + " below it shows)");
        for (int r = 1; r <= 20; r++) {
            for (int c = 1; c <= 20; c++) {
                delayOfOneWire(r, c);
            }
        }
        CHECK.about("Terms, The DELAY of a buffer is its own delay and twice its drive times what"
                + " its join bears");
        for (int drive : new int[] {1, 2, 500, 1000}) {
            for (int hold : new int[] {0, 1, 1000000000}) {
                delayOfOneBuffer(drive, hold);
            }
        }
        holds("Terms, The delay of a sink is the sum of those of all wires and buffers from the"
                + " source to it (the wire above the root and that above itself, too)",
                (grown, charged) -> {
            for (int sink = 0; sink < grown.sinks; sink++) {
                long sum = 0;
                for (int k = sink; k != -1; k = grown.nodes[k][PARENT]) {
                    sum += delayOfWire(grown, charged, k);
                    sum += hasBuffer(grown, k, charged.setting)
                            ? delayOfBuffer(grown, charged, k) : 0;
                }
                CHECK.same(charged.name + ": " + sink, sum, charged.clock.delay(sink));
            }
        });
    }

    /** From the source at 0, 0 to the only sink. */
    private static void delayOfOneWire(int r, int c) {
        EvenClock clock = new EvenClock();
        clock.sink(r, 3, 5 * c, 0);
        clock.wires(r, c);
        clock.build(0);
        long l = 1024 * (r + 3);
        CHECK.same("r " + r + ", c " + c, r * l * (c * l + 2 * 1024 * 5 * c), clock.delay(0));
    }

    // The root stands at the source and has no wire above it; wires of 2048 go to both sinks.
    private static void delayOfOneBuffer(int drive, int hold) {
        EvenClock clock = new EvenClock();
        clock.sink(0, 0, 3, 0);
        clock.sink(4, 0, 5, 0);
        clock.source(2, 0);
        clock.build(0);
        clock.buffer(9, drive, hold);
        long left = 2048 * (2048 + 2 * 3072);
        long right = 2048 * (2048 + 2 * 5120);
        CHECK.same("left, none", left, clock.delay(0));
        CHECK.same("right, none", right, clock.delay(1));
        clock.set(2, true);
        long bears = 3072 + 5120 + 2 * 2048;
        String with = "drive " + drive + ", delay " + hold;
        CHECK.same("left, " + with, left + hold + 2 * drive * bears, clock.delay(0));
        CHECK.same("right, " + with, right + hold + 2 * drive * bears, clock.delay(1));
    }

    /** Its resistance times (its capacity and twice what the node below it shows). */
    private static long delayOfWire(Grown grown, Charged charged, int k) {
        long resistance = (long) grown.r * grown.nodes[k][WIRE];
        long capacity = (long) grown.c * grown.nodes[k][WIRE];
        return resistance * (capacity + 2 * charged.shows[k]);
    }

    /** Its own delay and twice its drive times what its join bears. */
    private static long delayOfBuffer(Grown grown, Charged charged, int join) {
        return grown.hold + 2L * grown.drive * charged.bears[join];
    }

    private static void slacks() {
        holds("Terms, Its SLACK is 1048576 times its need less its delay; that of the tree is the"
                + " least one of its sinks", (grown, charged) -> {
            long least = Long.MAX_VALUE;
            for (int sink = 0; sink < grown.sinks; sink++) {
                long slack = 1048576L * grown.need[sink] - charged.clock.delay(sink);
                least = slack < least ? slack : least;
            }
            CHECK.same(charged.name, least, charged.clock.slack());
        });
    }

    private static void settings() {
        holds("Terms, A SETTING is a set of joins with buffers; its number is the sum of"
                + " 1 << (join - n)", (grown, charged) -> {
            int sum = 0;
            for (int join = grown.sinks; join < grown.nodes.length; join++) {
                sum += hasBuffer(grown, join, charged.setting) ? 1 << (join - grown.sinks) : 0;
            }
            CHECK.same(charged.name, sum, charged.clock.setting());
        });
        holds("12, A buffer is set at a join, or taken away: whether that changed something",
                (grown, charged) -> {
            int setting = charged.setting;
            for (int join = grown.sinks; join < grown.nodes.length; join++) {
                boolean on = hasBuffer(grown, join, setting);
                int other = setting ^ 1 << (join - grown.sinks);
                CHECK.that(charged.name + ": as it is", !charged.clock.set(join, on));
                CHECK.same(charged.name + ": as it is", setting, charged.clock.setting());
                CHECK.that(charged.name + ": the other way", charged.clock.set(join, !on));
                CHECK.same(charged.name + ": the other way", other, charged.clock.setting());
                CHECK.that(charged.name + ": back again", charged.clock.set(join, on));
                CHECK.same(charged.name + ": back again", setting, charged.clock.setting());
            }
        });
    }

    private static void bestOnes() {
        CHECK.about("Terms, The BEST one is that with the greatest slack of the tree, of several"
                + " the one with the least number");
        boolean[] seen = new boolean[512];
        int kinds = 0;
        for (Grown grown : FOREST) {
            long[] slacks = slacksOfSettings(grown);
            int best = 0;
            for (int setting = 1; setting < slacks.length; setting++) {
                best = slacks[setting] > slacks[best] ? setting : best;
            }
            int present = grown.settings() - 1;
            EvenClock clock = grown.again(present);
            CHECK.same(grown.name + ": 17, The slack of the tree with the BEST setting",
                    slacks[best], clock.best());
            CHECK.same(grown.name + ": 17, the present one stays", present, clock.setting());
            CHECK.same(grown.name + ": 17, its slack stays", slacks[present], clock.slack());
            CHECK.same(grown.name + ": 18, its number", best, clock.improve());
            CHECK.same(grown.name + ": 18, The present setting becomes the BEST one", best,
                    clock.setting());
            CHECK.same(grown.name + ": 18, so its slack is", slacks[best], clock.slack());
            kinds += seen[best] ? 0 : 1;
            seen[best] = true;
        }
        CHECK.that("only " + kinds + " settings were best", kinds > 20);
    }

    private static long[] slacksOfSettings(Grown grown) {
        long[] slacks = new long[grown.settings()];
        EvenClock clock = grown.again();
        for (int setting = 0; setting < slacks.length; setting++) {
            if (setting % SETTINGS_OF_A_CLOCK == 0) {
                clock = grown.again();
            }
            grown.putOn(clock, setting);
            slacks[setting] = clock.slack();
        }
        return slacks;
    }

    /** A tree that stands answers with new wires and buffer as if they had been told before. */
    private static void fromNowOn() {
        CHECK.about("5, Resistance and capacity of wires from now on, 6, The buffer from now on");
        for (Grown grown : FOREST) {
            int setting = grown.settings() / 2;
            EvenClock before = new EvenClock();
            EvenClock after = new EvenClock();
            before.wires(7, 13);
            before.buffer(17, 19, 23);
            tell(grown, before, setting);
            tell(grown, after, setting);
            after.wires(7, 13);
            after.buffer(17, 19, 23);
            CHECK.that(grown.name + ": the tree", Answers.ofTree(before)
                    .equals(Answers.ofTree(after)));
            CHECK.that(grown.name + ": loads, delays and setting", Answers.ofCircuit(before)
                    .equals(Answers.ofCircuit(after)));
            CHECK.same(grown.name + ": setting", setting, after.setting());
            after.build(grown.way);
            grown.putOn(after, setting);
            CHECK.that(grown.name + ": built again", Answers.ofCircuit(before)
                    .equals(Answers.ofCircuit(after)));
        }
    }

    private static void tell(Grown grown, EvenClock clock, int setting) {
        for (int k = 0; k < grown.sinks; k++) {
            clock.sink(grown.x[k], grown.y[k], grown.load[k], grown.need[k]);
        }
        clock.source(grown.sourceX, grown.sourceY);
        clock.build(grown.way);
        grown.putOn(clock, setting);
    }
}
