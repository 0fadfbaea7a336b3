import java.util.ArrayList;
import java.util.List;
import java.util.function.Consumer;
import java.util.function.Function;
import java.util.function.Supplier;

/**
 * A refused call: each call that throws, in states with and without sinks and a tree; that it
 * throws what it names first, and that everything else is answered as if it had not been made.
 */
public final class RefusedTest {
    private static final Check CHECK = new Check("RefusedTest");
    private static final int[] FAR_OFF = {Integer.MIN_VALUE, Integer.MAX_VALUE};

    /** A call that is refused, and how. */
    private record Refusal(String what, Class<? extends RuntimeException> due,
            Consumer<EvenClock> call) {
    }

    public static void main(String[] args) {
        withoutSinks();
        withoutTree();
        withTree();
        severalInARow();
        firstNamed();
        CHECK.end();
    }

    /** Nothing is as it is in a new object, so that a call that takes it back would show. */
    private static EvenClock told(EvenClock clock) {
        clock.source(3, 8);
        clock.wires(3, 4);
        clock.buffer(2, 3, 4);
        return clock;
    }

    private static EvenClock standing(int sinks, int way, int setting) {
        EvenClock clock = told(Clocks.many(sinks));
        clock.build(way);
        for (int bit = 0; bit < sinks - 1; bit++) {
            clock.set(sinks + bit, (setting >> bit & 1) == 1);
        }
        return clock;
    }

    private static void withoutSinks() {
        List<Refusal> refusals = refusedAlways(0);
        refusals.addAll(refusedWithoutTree());
        for (int way = 0; way <= 1; way++) {
            int by = way;
            add(refusals, "build(" + way + ")", Due.NO_ELEMENT, clock -> clock.build(by));
        }
        refuse("a new object", EvenClock::new, refusals);
        refuse("no sinks", () -> told(new EvenClock()), refusals);
        refuse("all sinks cut", () -> {
            EvenClock clock = standing(4, 0, 5);
            clock.cut(0);
            return clock;
        }, refusals);
    }

    private static void withoutTree() {
        for (int sinks : new int[] {1, 2, 5, 10}) {
            List<Refusal> refusals = refusedAlways(sinks);
            refusals.addAll(refusedWithoutTree());
            refuse("sinks and no tree", () -> told(Clocks.many(sinks)), refusals);
            refuse("a tree that was ended", () -> {
                EvenClock clock = standing(sinks, 1, 1);
                clock.source(3, 8);
                return clock;
            }, refusals);
        }
    }

    private static void withTree() {
        for (int sinks : new int[] {1, 2, 3, 5, 10}) {
            List<Refusal> refusals = refusedAlways(sinks);
            refusals.addAll(refusedWithTree(sinks));
            for (int way = 0; way <= 1; way++) {
                int by = way;
                refuse("a tree", () -> standing(sinks, by, 0), refusals);
                refuse("a tree with buffers", () -> standing(sinks, by, 341), refusals);
            }
        }
    }

    private static void severalInARow() {
        CHECK.about("Terms, A call that throws changes nothing, nor do many");
        List<Refusal> refusals = refusedAlways(3);
        refusals.addAll(refusedWithTree(3));
        EvenClock clock = standing(3, 0, 2);
        for (Refusal refusal : refusals) {
            CHECK.fails(refusal.what, refusal.due, () -> refusal.call.accept(clock));
        }
        EvenClock like = standing(3, 0, 2);
        unchanged("all refused calls", Answers.ofTree(like), Answers.ofTree(clock));
        unchanged("all refused calls", Answers.ofCircuit(like), Answers.ofCircuit(clock));
        unchanged("all refused calls", Answers.ofLater(like), Answers.ofLater(clock));
    }

    private static void firstNamed() {
        CHECK.about("Terms, where several exceptions that a call names fit, it is the one that it"
                + " names first");
        EvenClock full = Clocks.many(10);
        CHECK.fails("2, a wrong sink, of ten", Due.ARGUMENT, () -> full.sink(201, 0, 1, 0));
        EvenClock none = new EvenClock();
        CHECK.fails("8, a wrong way, of no sink", Due.ARGUMENT, () -> none.build(2));
        EvenClock unbuilt = Clocks.many(2);
        CHECK.fails("9, a wrong node, no tree", Due.STATE, () -> unbuilt.node(3, 0));
        CHECK.fails("9, a wrong part, no tree", Due.STATE, () -> unbuilt.node(0, 11));
        CHECK.fails("11, a wrong sink, no tree", Due.STATE, () -> unbuilt.depth(2));
        CHECK.fails("12, a wrong join, no tree", Due.STATE, () -> unbuilt.set(1, true));
        CHECK.fails("14, a wrong node, no tree", Due.STATE, () -> unbuilt.load(3, true));
        CHECK.fails("15, a wrong sink, no tree", Due.STATE, () -> unbuilt.delay(2));
        CHECK.about("Terms, where several exceptions that a call names fit, and when one does");
        CHECK.fails("2, of ten", Due.UNSUPPORTED, () -> full.sink(200, 0, 1, 0));
        CHECK.fails("8, of no sink", Due.NO_ELEMENT, () -> none.build(1));
        unbuilt.build(0);
        CHECK.fails("9, a wrong node", Due.INDEX, () -> unbuilt.node(3, 0));
        CHECK.fails("9, a wrong part", Due.INDEX, () -> unbuilt.node(0, 11));
        CHECK.fails("11, a wrong sink", Due.INDEX, () -> unbuilt.depth(2));
        CHECK.fails("12, a wrong join", Due.INDEX, () -> unbuilt.set(1, true));
        CHECK.fails("14, a wrong node", Due.INDEX, () -> unbuilt.load(3, true));
        CHECK.fails("15, a wrong sink", Due.INDEX, () -> unbuilt.delay(2));
    }

    private static void refuse(String state, Supplier<EvenClock> made, List<Refusal> refusals) {
        for (Refusal refusal : refusals) {
            CHECK.about("Terms, A call that throws changes nothing, of " + state);
            beforeAndBehind(made.get(), refusal, Answers::ofTree);
            beforeAndBehind(made.get(), refusal, Answers::ofCircuit);
            EvenClock clock = made.get();
            CHECK.fails(refusal.what, refusal.due, () -> refusal.call.accept(clock));
            unchanged(refusal.what, Answers.ofLater(made.get()), Answers.ofLater(clock));
        }
    }

    private static void beforeAndBehind(EvenClock clock, Refusal refusal,
            Function<EvenClock, List<String>> look) {
        List<String> before = look.apply(clock);
        CHECK.fails(refusal.what, refusal.due, () -> refusal.call.accept(clock));
        unchanged(refusal.what, before, look.apply(clock));
    }

    private static void unchanged(String what, List<String> due, List<String> got) {
        CHECK.that(what + " changed " + firstDifference(due, got), due.equals(got));
    }

    private static String firstDifference(List<String> due, List<String> got) {
        for (int k = 0; k < Math.min(due.size(), got.size()); k++) {
            if (!due.get(k).equals(got.get(k))) {
                return due.get(k) + " to " + got.get(k);
            }
        }
        return "how many answers there are";
    }

    private static void add(List<Refusal> refusals, String what,
            Class<? extends RuntimeException> due, Consumer<EvenClock> call) {
        refusals.add(new Refusal(what, due, call));
    }

    /** Each wrong number stands among right ones that differ from what was told before. */
    private static List<Refusal> refusedAlways(int sinks) {
        List<Refusal> refusals = new ArrayList<>();
        refusedSinks(refusals, sinks);
        for (int n : new int[] {-1, sinks + 1, FAR_OFF[0], FAR_OFF[1]}) {
            add(refusals, "cut(" + n + ")", Due.ARGUMENT, clock -> clock.cut(n));
        }
        for (int wrong : new int[] {-1, 201, FAR_OFF[0], FAR_OFF[1]}) {
            add(refusals, "source x " + wrong, Due.ARGUMENT, clock -> clock.source(wrong, 50));
            add(refusals, "source y " + wrong, Due.ARGUMENT, clock -> clock.source(50, wrong));
        }
        for (int wrong : new int[] {-1, 0, 21, FAR_OFF[0], FAR_OFF[1]}) {
            add(refusals, "wires r " + wrong, Due.ARGUMENT, clock -> clock.wires(wrong, 9));
            add(refusals, "wires c " + wrong, Due.ARGUMENT, clock -> clock.wires(9, wrong));
        }
        refusedBuffers(refusals);
        for (int way : new int[] {-1, 2, FAR_OFF[0], FAR_OFF[1]}) {
            add(refusals, "build(" + way + ")", Due.ARGUMENT, clock -> clock.build(way));
        }
        return refusals;
    }

    private static void refusedSinks(List<Refusal> refusals, int sinks) {
        for (int wrong : new int[] {-1, 201, FAR_OFF[0], FAR_OFF[1]}) {
            add(refusals, "sink x " + wrong, Due.ARGUMENT, clock -> clock.sink(wrong, 5, 5, 5));
            add(refusals, "sink y " + wrong, Due.ARGUMENT, clock -> clock.sink(5, wrong, 5, 5));
        }
        for (int wrong : new int[] {0, 101, FAR_OFF[0], FAR_OFF[1]}) {
            add(refusals, "sink load " + wrong, Due.ARGUMENT, clock -> clock.sink(5, 5, wrong, 5));
        }
        for (int wrong : new int[] {-1, 1000000001, FAR_OFF[0], FAR_OFF[1]}) {
            add(refusals, "sink need " + wrong, Due.ARGUMENT, clock -> clock.sink(5, 5, 5, wrong));
        }
        if (sinks == 10) {
            add(refusals, "an eleventh sink", Due.UNSUPPORTED, clock -> clock.sink(5, 5, 5, 5));
        }
    }

    private static void refusedBuffers(List<Refusal> refusals) {
        for (int wrong : new int[] {0, 1000001, FAR_OFF[0], FAR_OFF[1]}) {
            add(refusals, "its input " + wrong, Due.ARGUMENT, clock -> clock.buffer(wrong, 9, 9));
        }
        for (int wrong : new int[] {0, 1001, FAR_OFF[0], FAR_OFF[1]}) {
            add(refusals, "its drive " + wrong, Due.ARGUMENT, clock -> clock.buffer(9, wrong, 9));
        }
        for (int wrong : new int[] {-1, 1000000001, FAR_OFF[0], FAR_OFF[1]}) {
            add(refusals, "its delay " + wrong, Due.ARGUMENT, clock -> clock.buffer(9, 9, wrong));
        }
    }

    /** Numbers that no tree has fit both exceptions: the one named first is due. */
    private static List<Refusal> refusedWithoutTree() {
        List<Refusal> refusals = new ArrayList<>();
        for (int k : new int[] {0, 1, -1, 19, FAR_OFF[0], FAR_OFF[1]}) {
            String of = "(" + k + ")";
            add(refusals, "node" + of, Due.STATE, clock -> clock.node(k, 0));
            add(refusals, "node of part " + of, Due.STATE, clock -> clock.node(0, k));
            add(refusals, "depth" + of, Due.STATE, clock -> clock.depth(k));
            add(refusals, "set on" + of, Due.STATE, clock -> clock.set(k, true));
            add(refusals, "set off" + of, Due.STATE, clock -> clock.set(k, false));
            add(refusals, "load" + of, Due.STATE, clock -> clock.load(k, true));
            add(refusals, "delay" + of, Due.STATE, clock -> clock.delay(k));
        }
        add(refusals, "length", Due.STATE, EvenClock::length);
        add(refusals, "setting", Due.STATE, EvenClock::setting);
        add(refusals, "slack", Due.STATE, EvenClock::slack);
        add(refusals, "best", Due.STATE, EvenClock::best);
        add(refusals, "improve", Due.STATE, EvenClock::improve);
        return refusals;
    }

    private static List<Refusal> refusedWithTree(int sinks) {
        List<Refusal> refusals = new ArrayList<>();
        for (int k : new int[] {-1, 2 * sinks - 1, FAR_OFF[0], FAR_OFF[1]}) {
            add(refusals, "node " + k, Due.INDEX, clock -> clock.node(k, 0));
            add(refusals, "borne " + k, Due.INDEX, clock -> clock.load(k, false));
            add(refusals, "shown " + k, Due.INDEX, clock -> clock.load(k, true));
        }
        for (int part : new int[] {-1, 11, FAR_OFF[0], FAR_OFF[1]}) {
            add(refusals, "part " + part, Due.INDEX, clock -> clock.node(0, part));
        }
        for (int sink : new int[] {-1, sinks, FAR_OFF[0], FAR_OFF[1]}) {
            add(refusals, "depth " + sink, Due.INDEX, clock -> clock.depth(sink));
            add(refusals, "delay " + sink, Due.INDEX, clock -> clock.delay(sink));
        }
        for (int join : new int[] {-1, 0, sinks - 1, 2 * sinks - 1, FAR_OFF[0], FAR_OFF[1]}) {
            add(refusals, "set on " + join, Due.INDEX, clock -> clock.set(join, true));
            add(refusals, "set off " + join, Due.INDEX, clock -> clock.set(join, false));
        }
        return refusals;
    }
}
