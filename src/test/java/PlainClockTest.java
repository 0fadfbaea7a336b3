import java.util.Random;

/**
 * Many runs of calls, the same ones each time, held against PlainClock. A run makes more calls than
 * the 512 that the document speaks of: nothing in the program counts them.
 */
public final class PlainClockTest {
    private static final Check CHECK = new Check("PlainClockTest");
    private static final int RUNS = 1500;

    public static void main(String[] args) {
        for (int run = 0; run < RUNS; run++) {
            new PlainClockTest(run).play();
        }
        CHECK.end();
    }

    private final int run;
    private final Random random;
    private final EvenClock clock = new EvenClock();
    private final PlainClock plain = new PlainClock();
    /** Small fields bring sinks at one place, ties and detours; large ones the greatest numbers. */
    private final int field;
    private int setting;

    private PlainClockTest(int run) {
        this.run = run;
        random = new Random(run);
        int[] fields = {0, 2, 5, 12, 40, 200};
        field = fields[run % fields.length];
    }

    private void play() {
        for (int round = 0; round < 4; round++) {
            changeSinks();
            changeRest();
            same("build", plain.build(round % 2), clock.build(round % 2));
            setting = 0;
            lookAtTree();
            wiresAreEven();
            lookAtCircuit();
            for (int k = 0; k < 4; k++) {
                changeCircuit();
                lookAtCircuit();
            }
            if (round < 2) {
                lookForBest();
            }
        }
    }

    private void same(String what, long due, long got) {
        CHECK.same("run " + run + ": " + what, due, got);
    }

    private void changeSinks() {
        int kept = random.nextInt(plain.sinks.size() + 1);
        clock.cut(kept);
        plain.sinks.subList(kept, plain.sinks.size()).clear();
        int wanted = Math.max(kept, 1 + random.nextInt(10));
        while (plain.sinks.size() < wanted) {
            int x = random.nextInt(field + 1);
            int y = random.nextInt(field + 1);
            int load = 1 + random.nextInt(100);
            int need = random.nextBoolean() ? random.nextInt(1000) : random.nextInt(1000000001);
            int number = plain.sinks.size();
            plain.sinks.add(new PlainClock.Sink(number, x, y, load, need));
            same("sink", number, clock.sink(x, y, load, need));
        }
        same("sinks", plain.sinks.size(), clock.sinks());
    }

    private void changeRest() {
        if (random.nextBoolean()) {
            plain.sourceX = random.nextInt(201);
            plain.sourceY = random.nextInt(201);
            clock.source(plain.sourceX, plain.sourceY);
        }
    }

    private void changeCircuit() {
        if (random.nextBoolean()) {
            plain.r = 1 + random.nextInt(20);
            plain.c = 1 + random.nextInt(20);
            clock.wires(plain.r, plain.c);
        }
        if (random.nextBoolean()) {
            plain.input = 1 + random.nextInt(random.nextBoolean() ? 100 : 1000000);
            plain.drive = 1 + random.nextInt(random.nextBoolean() ? 10 : 1000);
            plain.hold = random.nextInt(random.nextBoolean() ? 1000 : 1000000001);
            clock.buffer(plain.input, plain.drive, plain.hold);
        }
        int joins = plain.sinks.size() - 1;
        for (int k = 0; k < joins; k++) {
            int join = plain.sinks.size() + random.nextInt(joins);
            int bit = 1 << (join - plain.sinks.size());
            boolean on = random.nextBoolean();
            boolean changes = (setting & bit) != 0 != on;
            setting = on ? setting | bit : setting & ~bit;
            same("set", changes ? 1 : 0, clock.set(join, on) ? 1 : 0);
        }
    }

    private void lookAtTree() {
        for (int k = 0; k < plain.nodes.size(); k++) {
            for (int part = 0; part < 11; part++) {
                same("node(" + k + ", " + part + ")", plain.part(k, part), clock.node(k, part));
            }
        }
        for (int k = 0; k < plain.sinks.size(); k++) {
            same("depth(" + k + ")", plain.depth(plain.nodes.get(k)), clock.depth(k));
        }
        same("length", plain.length(), clock.length());
    }

    /** What the tree is for: as much wire to every sink, and enough of it to reach each place. */
    private void wiresAreEven() {
        int root = 2 * clock.sinks() - 2;
        for (int sink = 0; sink < clock.sinks(); sink++) {
            int way = 0;
            for (int k = sink; k != root; k = clock.node(k, 2)) {
                way += clock.node(k, 8);
            }
            same("wire from the root to " + sink, clock.node(root, 7), way);
        }
        for (int k = 0; k < root; k++) {
            int parent = clock.node(k, 2);
            int apart = Math.max(Math.abs(clock.node(k, 9) - clock.node(parent, 9)),
                    Math.abs(clock.node(k, 10) - clock.node(parent, 10)));
            CHECK.that("run " + run + ": the wire above " + k + " is too short",
                    apart <= clock.node(k, 8));
        }
        for (int k = 0; k <= root; k++) {
            CHECK.that("run " + run + ": the region of " + k + " is empty",
                    clock.node(k, 3) <= clock.node(k, 4) && clock.node(k, 5) <= clock.node(k, 6));
        }
    }

    private void lookAtCircuit() {
        same("setting", setting, clock.setting());
        for (PlainClock.Node node : plain.nodes) {
            int k = node.number;
            same("load(" + k + ", false)", plain.bears(node, setting), clock.load(k, false));
            same("load(" + k + ", true)", plain.shows(node, setting), clock.load(k, true));
        }
        for (int k = 0; k < plain.sinks.size(); k++) {
            same("delay(" + k + ")", plain.delay(plain.nodes.get(k), setting), clock.delay(k));
        }
        same("slack", plain.slack(setting), clock.slack());
    }

    private void lookForBest() {
        int best = plain.bestSetting();
        same("best", plain.slack(best), clock.best());
        lookAtCircuit();
        setting = best;
        same("improve", best, clock.improve());
        lookAtCircuit();
    }
}
