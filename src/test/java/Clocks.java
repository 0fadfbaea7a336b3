/** Clocks as several tests need them, new ones each time. */
final class Clocks {
    private Clocks() {
    }

    /** Sinks of load 1 and need 0, without a tree. */
    static EvenClock of(int... xy) {
        EvenClock clock = new EvenClock();
        for (int k = 0; k < xy.length; k += 2) {
            clock.sink(xy[k], xy[k + 1], 1, 0);
        }
        return clock;
    }

    static EvenClock built(int way, int... xy) {
        EvenClock clock = of(xy);
        clock.build(way);
        return clock;
    }

    /** Joined at u 2048, v 2048, with 2048 of wire to each sink and as much from the source. */
    static EvenClock pair() {
        EvenClock clock = new EvenClock();
        clock.sink(0, 0, 3, 100);
        clock.sink(4, 0, 5, 100);
        clock.build(0);
        return clock;
    }

    /** So many sinks, all at places of their own, without a tree. */
    static EvenClock many(int sinks) {
        EvenClock clock = new EvenClock();
        for (int k = 0; k < sinks; k++) {
            clock.sink(7 * k % 10, 3 * k, 1 + k, 100 * k);
        }
        return clock;
    }

    static EvenClock manyBuilt(int sinks, int way) {
        EvenClock clock = many(sinks);
        clock.build(way);
        return clock;
    }

    /** Five pairs in a line: 0, 2, 20, 22, 40, 42, 60, 62, 80 and 82. */
    static EvenClock tenInLine(int way) {
        return built(way,
                0, 0, 2, 0, 20, 0, 22, 0, 40, 0, 42, 0, 60, 0, 62, 0, 80, 0, 82, 0);
    }
}
