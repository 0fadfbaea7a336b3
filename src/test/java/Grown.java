import java.util.ArrayList;
import java.util.List;
import java.util.Random;

/**
 * A tree as a clock answers for it, with what the clock was told before: so that the document's
 * sentences can be held against the answers themselves. Each number is the same tree in each run.
 */
final class Grown {
    /** Small fields bring sinks at one place, ties and detours. */
    private static final int[] FIELDS = {0, 1, 2, 4, 9, 30, 200};
    private static final int PARTS = 11;

    final String name;
    final int way;
    final int sinks;
    final int[] x;
    final int[] y;
    final int[] load;
    final int[] need;
    final int sourceX;
    final int sourceY;
    final int r;
    final int c;
    final int input;
    final int drive;
    final int hold;
    /** A node's parts, by their numbers. */
    final int[][] nodes;

    Grown(int number) {
        Random random = new Random(number);
        int field = FIELDS[number / 2 % FIELDS.length];
        way = number % 2;
        sinks = 1 + random.nextInt(10);
        name = "tree " + number + " by way " + way;
        x = random.ints(sinks, 0, field + 1).toArray();
        y = random.ints(sinks, 0, field + 1).toArray();
        load = random.ints(sinks, 1, 101).toArray();
        need = random.ints(sinks, 0, 5000 * (field + 1)).toArray();
        sourceX = random.nextInt(201);
        sourceY = random.nextInt(201);
        r = 1 + random.nextInt(20);
        c = 1 + random.nextInt(20);
        input = 1 + random.nextInt(300);
        drive = 1 + random.nextInt(1000);
        hold = random.nextInt(1000000001);
        nodes = partsOf(again());
    }

    static List<Grown> forest(int trees) {
        List<Grown> grown = new ArrayList<>();
        for (int number = 0; number < trees; number++) {
            grown.add(new Grown(number));
        }
        return grown;
    }

    /** A new clock with this tree, since each clock answers 512 calls only. */
    EvenClock again() {
        EvenClock clock = new EvenClock();
        for (int k = 0; k < sinks; k++) {
            clock.sink(x[k], y[k], load[k], need[k]);
        }
        clock.source(sourceX, sourceY);
        clock.wires(r, c);
        clock.buffer(input, drive, hold);
        clock.build(way);
        return clock;
    }

    EvenClock again(int setting) {
        EvenClock clock = again();
        putOn(clock, setting);
        return clock;
    }

    void putOn(EvenClock clock, int setting) {
        for (int join = sinks; join < nodes.length; join++) {
            clock.set(join, (setting >> (join - sinks) & 1) == 1);
        }
    }

    int root() {
        return nodes.length - 1;
    }

    int settings() {
        return 1 << (sinks - 1);
    }

    int sourceU() {
        return 1024 * (sourceX + sourceY);
    }

    int sourceV() {
        return 1024 * (sourceX - sourceY);
    }

    private int[][] partsOf(EvenClock clock) {
        int[][] parts = new int[2 * sinks - 1][PARTS];
        for (int k = 0; k < parts.length; k++) {
            for (int part = 0; part < PARTS; part++) {
                parts[k][part] = clock.node(k, part);
            }
        }
        return parts;
    }
}
