import java.util.ArrayList;
import java.util.List;
import java.util.function.Supplier;

/**
 * What a clock answers, in words: a call has changed nothing if it is the same before and behind
 * it. It is asked for in parts, since a clock of ten sinks has too many answers to ask twice for
 * them all within 512 calls.
 */
final class Answers {
    private final List<String> told = new ArrayList<>();

    private Answers() {
    }

    static List<String> ofTree(EvenClock clock) {
        Answers answers = new Answers();
        int sinks = clock.sinks();
        answers.ask("sinks", clock::sinks);
        answers.ask("length", clock::length);
        for (int k = 0; k < nodesOf(sinks); k++) {
            int node = k;
            for (int p = 0; p < 11; p++) {
                int part = p;
                answers.ask("node(" + k + ", " + p + ")", () -> clock.node(node, part));
            }
        }
        for (int k = 0; k < sinks; k++) {
            int sink = k;
            answers.ask("depth(" + k + ")", () -> clock.depth(sink));
        }
        return answers.told;
    }

    static List<String> ofCircuit(EvenClock clock) {
        Answers answers = new Answers();
        int sinks = clock.sinks();
        answers.ask("setting", clock::setting);
        answers.ask("slack", clock::slack);
        answers.ask("best", clock::best);
        for (int k = 0; k < nodesOf(sinks); k++) {
            int node = k;
            answers.ask("load(" + k + ", false)", () -> clock.load(node, false));
            answers.ask("load(" + k + ", true)", () -> clock.load(node, true));
        }
        for (int k = 0; k < sinks; k++) {
            int sink = k;
            answers.ask("delay(" + k + ")", () -> clock.delay(sink));
        }
        return answers.told;
    }

    /**
     * What no call tells at once, the source, the wires, the buffer and sinks without a tree, shows
     * in what is answered later on. This changes the clock.
     */
    static List<String> ofLater(EvenClock clock) {
        Answers answers = new Answers();
        answers.ask("a sink", () -> clock.sink(11, 13, 17, 19));
        answers.ask("build(0)", () -> clock.build(0));
        answers.told.addAll(ofCircuit(clock));
        answers.ask("build(1)", () -> clock.build(1));
        answers.ask("length", clock::length);
        for (int join = clock.sinks(); join < nodesOf(clock.sinks()); join++) {
            int at = join;
            answers.ask("set", () -> clock.set(at, true));
        }
        answers.told.addAll(ofCircuit(clock));
        answers.ask("improve", clock::improve);
        return answers.told;
    }

    /** Of no sinks one node is asked for, to hear that there is none. */
    private static int nodesOf(int sinks) {
        return sinks == 0 ? 1 : 2 * sinks - 1;
    }

    private void ask(String what, Supplier<Object> call) {
        String answer;
        try {
            answer = String.valueOf(call.get());
        } catch (RuntimeException e) {
            answer = "throws " + e.getClass().getName();
        }
        told.add(what + " " + answer);
    }
}
