import java.util.Random;
import java.util.function.Supplier;

/**
 * Many runs of 512 calls, the same ones each time, right and wrong ones, held against PlainClock:
 * each answers or throws the same. More than 512 calls the document does not speak of.
 */
public final class PlainClockTest {
    private static final Check CHECK = new Check("PlainClockTest");
    private static final int RUNS = 1500;
    private static final int CALLS = 512;
    /** Small fields bring sinks at one place, ties and detours; large ones the greatest numbers. */
    private static final int[] FIELDS = {0, 1, 2, 5, 12, 40, 200};

    private final int run;
    private final Random random;
    private final int field;
    private final EvenClock clock = new EvenClock();
    private final PlainClock plain = new PlainClock();

    private PlainClockTest(int run) {
        this.run = run;
        random = new Random(run);
        field = FIELDS[run % FIELDS.length];
    }

    public static void main(String[] args) {
        for (int run = 0; run < RUNS; run++) {
            new PlainClockTest(run).play();
        }
        CHECK.end();
    }

    private void play() {
        for (int call = 0; call < CALLS; call++) {
            boolean seeksTree = !plain.hasTree() && random.nextInt(10) > 0;
            int chosen = random.nextInt(1000);
            if (seeksTree || chosen < 30) {
                makeReady();
            } else if (chosen < 250) {
                changeCircuit();
            } else if (chosen < 600) {
                lookAtTree();
            } else if (chosen < 990) {
                lookAtCircuit();
            } else {
                lookForBest();
            }
        }
    }

    private void makeReady() {
        int chosen = random.nextInt(100);
        if (chosen < 55) {
            addSink();
        } else if (chosen < 65) {
            int n = near(0, plain.sinks());
            same("cut(" + n + ")", done(() -> plain.cut(n)), done(() -> clock.cut(n)));
        } else if (chosen < 75) {
            int x = near(0, 200);
            int y = near(0, 200);
            same("source(" + x + ", " + y + ")",
                    done(() -> plain.source(x, y)), done(() -> clock.source(x, y)));
        } else {
            int way = near(0, 1);
            same("build(" + way + ")", () -> plain.build(way), () -> clock.build(way));
        }
    }

    private void addSink() {
        boolean wild = random.nextInt(8) == 0;
        int x = wild ? near(0, 200) : random.nextInt(field + 1);
        int y = wild ? near(0, 200) : random.nextInt(field + 1);
        int load = near(1, random.nextBoolean() ? 4 : 100);
        int need = near(0, random.nextBoolean() ? 1000 : 1000000000);
        same("sink(" + x + ", " + y + ", " + load + ", " + need + ")",
                () -> plain.sink(x, y, load, need), () -> clock.sink(x, y, load, need));
    }

    private void changeCircuit() {
        int chosen = random.nextInt(4);
        if (chosen == 0) {
            int r = near(1, 20);
            int c = near(1, 20);
            same("wires(" + r + ", " + c + ")",
                    done(() -> plain.wires(r, c)), done(() -> clock.wires(r, c)));
        } else if (chosen == 1) {
            int input = near(1, random.nextBoolean() ? 100 : 1000000);
            int drive = near(1, random.nextBoolean() ? 10 : 1000);
            int delay = near(0, random.nextBoolean() ? 1000 : 1000000000);
            same("buffer(" + input + ", " + drive + ", " + delay + ")",
                    done(() -> plain.buffer(input, drive, delay)),
                    done(() -> clock.buffer(input, drive, delay)));
        } else {
            int join = near(plain.sinks(), 2 * plain.sinks() - 2);
            boolean on = random.nextBoolean();
            same("set(" + join + ", " + on + ")",
                    () -> plain.set(join, on), () -> clock.set(join, on));
        }
    }

    private void lookAtTree() {
        int chosen = random.nextInt(20);
        if (chosen == 0) {
            same("sinks()", plain::sinks, clock::sinks);
        } else if (chosen == 1) {
            same("length()", plain::length, clock::length);
        } else if (chosen < 4) {
            int sink = near(0, plain.sinks() - 1);
            same("depth(" + sink + ")", () -> plain.depth(sink), () -> clock.depth(sink));
        } else {
            int k = near(0, 2 * plain.sinks() - 2);
            int part = near(0, 10);
            same("node(" + k + ", " + part + ")",
                    () -> plain.node(k, part), () -> clock.node(k, part));
        }
    }

    private void lookAtCircuit() {
        int chosen = random.nextInt(10);
        if (chosen == 0) {
            same("setting()", plain::setting, clock::setting);
        } else if (chosen < 3) {
            same("slack()", plain::slack, clock::slack);
        } else if (chosen < 6) {
            int sink = near(0, plain.sinks() - 1);
            same("delay(" + sink + ")", () -> plain.delay(sink), () -> clock.delay(sink));
        } else {
            int k = near(0, 2 * plain.sinks() - 2);
            boolean shown = random.nextBoolean();
            same("load(" + k + ", " + shown + ")",
                    () -> plain.load(k, shown), () -> clock.load(k, shown));
        }
    }

    private void lookForBest() {
        if (random.nextBoolean()) {
            same("best()", plain::best, clock::best);
        } else {
            same("improve()", plain::improve, clock::improve);
        }
    }

    /** Mostly a number from least to most, often one at an end, seldom one beyond. */
    private int near(int least, int most) {
        int chosen = random.nextInt(40);
        if (chosen == 0) {
            int[] beyond = {least - 1, most + 1, Integer.MIN_VALUE, Integer.MAX_VALUE};
            return beyond[random.nextInt(beyond.length)];
        }
        if (chosen < 5 || most <= least) {
            return random.nextBoolean() ? least : most;
        }
        return least + random.nextInt(most - least + 1);
    }

    private static Supplier<Object> done(Runnable call) {
        return () -> {
            call.run();
            return "done";
        };
    }

    private void same(String what, Supplier<Object> due, Supplier<Object> got) {
        Object answerDue = answer(due);
        Object answer = answer(got);
        CHECK.that("run " + run + ": " + what + " answered " + answer + ", due is " + answerDue,
                answerDue.equals(answer));
    }

    private static Object answer(Supplier<Object> call) {
        try {
            return call.get();
        } catch (RuntimeException e) {
            return e.getClass();
        }
    }
}
