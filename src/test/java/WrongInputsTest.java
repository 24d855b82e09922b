/** What a promise refuses as an argument: a test of its own for each promise's sentence on it. */
public final class WrongInputsTest {
    private static final Check CHECK = new Check();

    /** Calls that take a whole number, a level or a wind that is none. */
    private interface OfInt {
        Object call(int i);
    }

    private interface OfLevel {
        Object call(double v);
    }

    private interface OfWind {
        Object call(float v);
    }

    public static void main(String[] args) {
        level();
        wind();
        out();
        clear();
        mark();
        gale();
        lift();
        probe();
        probeWind();
        probeOut();
        run();
        count();
        holds();
        pick();
        stand();
        order();
        highest();
        calmest();
        same();
        size();
        CHECK.end("WrongInputsTest");
    }

    private static void level() {
        CHECK.sentence("Promise 2: IllegalArgumentException, when there is no such gauge, or v is not as said");
        HarbourBoard x = used();
        of("level, gauge ", Inputs.NO_GAUGES, g -> x.level(g, 5));
        for (int g = 0; g < 6; g++) {
            int gauge = g;
            ofLevels("level ", v -> x.level(gauge, v));
        }
        of("level NaN, gauge ", Inputs.NO_GAUGES, g -> x.level(g, Double.NaN));
    }

    private static void wind() {
        CHECK.sentence("Promise 3: A WIND comes likewise.");
        HarbourBoard x = used();
        of("wind, gauge ", Inputs.NO_GAUGES, g -> x.wind(g, 5));
        for (int g = 0; g < 6; g++) {
            int gauge = g;
            ofWinds("wind ", v -> x.wind(gauge, v));
        }
        of("wind NaN, gauge ", Inputs.NO_GAUGES, g -> x.wind(g, Float.NaN));
    }

    private static void out() {
        CHECK.sentence("Promise 4: IllegalArgumentException, when there is no such gauge or what");
        HarbourBoard x = used();
        of("out of levels, gauge ", Inputs.NO_GAUGES, g -> x.out(g, 0));
        of("out of winds, gauge ", Inputs.NO_GAUGES, g -> x.out(g, 1));
        for (int g = 0; g < 6; g++) {
            int gauge = g;
            of("out, what ", Inputs.NO_WHATS, what -> x.out(gauge, what));
        }
        of("out of both, ", Inputs.NO_GAUGES, i -> x.out(i, i));
    }

    private static void clear() {
        CHECK.sentence("Promise 5: IllegalArgumentException, when there is no such gauge.");
        HarbourBoard x = used();
        of("clear, gauge ", Inputs.NO_GAUGES, g -> x.clear(g));
    }

    private static void mark() {
        CHECK.sentence(
            "Promise 6: IllegalArgumentException, when there is no such gauge or mark, or v is no such level.");
        HarbourBoard x = used();
        of("LOW, gauge ", Inputs.NO_GAUGES, g -> x.mark(g, 0, 5));
        of("HIGH, gauge ", Inputs.NO_GAUGES, g -> x.mark(g, 1, 5));
        for (int g = 0; g < 6; g++) {
            int gauge = g;
            // GALE (2) is a mark, but no level.
            of("mark ", Inputs.NO_LEVEL_MARKS, mark -> x.mark(gauge, mark, 5));
            ofLevels("LOW ", v -> x.mark(gauge, 0, v));
            ofLevels("HIGH ", v -> x.mark(gauge, 1, v));
        }
    }

    private static void gale() {
        CHECK.sentence("Promise 7: IllegalArgumentException, when there is no such gauge, or v is no such wind.");
        HarbourBoard x = used();
        of("gale, gauge ", Inputs.NO_GAUGES, g -> x.gale(g, 5));
        for (int g = 0; g < 6; g++) {
            int gauge = g;
            ofWinds("gale ", v -> x.gale(gauge, v));
        }
    }

    private static void lift() {
        CHECK.sentence("Promise 8: IllegalArgumentException, when there is no such gauge or mark.");
        HarbourBoard x = used();
        for (int mark = 0; mark < 3; mark++) {
            int m = mark;
            of("lift, gauge ", Inputs.NO_GAUGES, g -> x.lift(g, m));
        }
        for (int g = 0; g < 6; g++) {
            int gauge = g;
            of("lift, mark ", Inputs.NO_MARKS, mark -> x.lift(gauge, mark));
        }
    }

    private static void probe() {
        CHECK.sentence("Promise 9: IllegalArgumentException, when v is no such level.");
        HarbourBoard x = used();
        ofLevels("probe ", v -> x.probe(v));
    }

    private static void probeWind() {
        CHECK.sentence("Promise 10: IllegalArgumentException, when v is no such wind.");
        HarbourBoard x = used();
        ofWinds("probeWind ", v -> x.probeWind(v));
    }

    private static void probeOut() {
        CHECK.sentence("Promise 11: IllegalArgumentException, when there is no such what.");
        HarbourBoard x = used();
        of("probeOut, what ", Inputs.NO_WHATS, what -> x.probeOut(what));
    }

    private static void run() {
        CHECK.sentence("Promise 12: IllegalArgumentException, when there is no such gauge, what or relation.");
        for (boolean back : new boolean[] {false, true}) {
            HarbourBoard x = used();
            of("run of levels, gauge ", Inputs.NO_GAUGES, g -> x.run(g, 0, 4, back));
            of("run of winds, gauge ", Inputs.NO_GAUGES, g -> x.run(g, 1, 4, back));
            for (int g = 0; g < 6; g++) {
                int gauge = g;
                of("run, what ", Inputs.NO_WHATS, what -> x.run(gauge, what, 5, back));
                of("run of levels, relation ", Inputs.NO_RELATIONS, relation -> x.run(gauge, 0, relation, back));
                of("run of winds, relation ", Inputs.NO_RELATIONS, relation -> x.run(gauge, 1, relation, back));
            }
        }
    }

    private static void count() {
        CHECK.sentence("Promise 13: Throws likewise.");
        for (boolean not : new boolean[] {false, true}) {
            HarbourBoard x = used();
            of("count of levels, gauge ", Inputs.NO_GAUGES, g -> x.count(g, 0, 4, not));
            of("count of winds, gauge ", Inputs.NO_GAUGES, g -> x.count(g, 1, 4, not));
            for (int g = 0; g < 6; g++) {
                int gauge = g;
                of("count, what ", Inputs.NO_WHATS, what -> x.count(gauge, what, 5, not));
                of("count of levels, relation ", Inputs.NO_RELATIONS, relation -> x.count(gauge, 0, relation, not));
                of("count of winds, relation ", Inputs.NO_RELATIONS, relation -> x.count(gauge, 1, relation, not));
            }
        }
    }

    private static void holds() {
        CHECK.sentence("Promise 14: IllegalArgumentException, when there is no such gauge (either one),"
            + " what or relation.");
        for (int what = 0; what < 2; what++) {
            int w = what;
            HarbourBoard x = used();
            // Relation 5 would hold to nothing at all: h has to be looked at all the same.
            of("holds, gauge ", Inputs.NO_GAUGES, g -> x.holds(g, 0, w, 5));
            of("holds to gauge ", Inputs.NO_GAUGES, h -> x.holds(0, h, w, 5));
            of("holds to itself, gauge ", Inputs.NO_GAUGES, g -> x.holds(g, g, w, 4));
            of("holds, relation ", Inputs.NO_RELATIONS, relation -> x.holds(0, 1, w, relation));
            of("holds to itself, relation ", Inputs.NO_RELATIONS, relation -> x.holds(5, 5, w, relation));
        }
        HarbourBoard x = used();
        of("holds, what ", Inputs.NO_WHATS, what -> x.holds(0, 1, what, 5));
        of("holds to itself, what ", Inputs.NO_WHATS, what -> x.holds(5, 5, what, 5));
    }

    private static void pick() {
        CHECK.sentence("Promise 15: Throws likewise.");
        for (int what = 0; what < 2; what++) {
            int w = what;
            HarbourBoard x = used();
            of("pick, gauge ", Inputs.NO_GAUGES, g -> x.pick(g, 0, w, 5));
            of("pick or gauge ", Inputs.NO_GAUGES, h -> x.pick(0, h, w, 5));
            of("pick and itself, gauge ", Inputs.NO_GAUGES, g -> x.pick(g, g, w, 4));
            of("pick, relation ", Inputs.NO_RELATIONS, relation -> x.pick(0, 1, w, relation));
            of("pick and itself, relation ", Inputs.NO_RELATIONS, relation -> x.pick(5, 5, w, relation));
        }
        HarbourBoard x = used();
        of("pick, what ", Inputs.NO_WHATS, what -> x.pick(0, 1, what, 5));
        of("pick and itself, what ", Inputs.NO_WHATS, what -> x.pick(5, 5, what, 5));
    }

    private static void stand() {
        CHECK.sentence("Promise 16: IllegalArgumentException, when there is no such gauge.");
        HarbourBoard x = used();
        of("stand, gauge ", Inputs.NO_GAUGES, g -> x.stand(g));
    }

    private static void order() {
        CHECK.sentence("Promise 17: IllegalArgumentException, when k is not 0 .. 5.");
        HarbourBoard x = used();
        of("order ", Inputs.NO_GAUGES, k -> x.order(k));
        HarbourBoard empty = new HarbourBoard();
        of("order of empty strips ", Inputs.NO_GAUGES, k -> empty.order(k));
    }

    private static void highest() {
        CHECK.sentence("Promise 18: IllegalArgumentException, when there is no such gauge");
        HarbourBoard x = used();
        of("highest, gauge ", Inputs.NO_GAUGES, g -> x.highest(g));
    }

    private static void calmest() {
        CHECK.sentence("Promise 19: Throws likewise.");
        HarbourBoard x = used();
        of("calmest, gauge ", Inputs.NO_GAUGES, g -> x.calmest(g));
    }

    private static void same() {
        CHECK.sentence("Promise 20: IllegalArgumentException, when there is no such gauge (either one).");
        HarbourBoard x = used();
        for (int g = 0; g < 6; g++) {
            int gauge = g;
            of("same, gauge ", Inputs.NO_GAUGES, h -> x.same(h, gauge));
            of("same and gauge ", Inputs.NO_GAUGES, h -> x.same(gauge, h));
        }
        of("same and itself, gauge ", Inputs.NO_GAUGES, g -> x.same(g, g));
    }

    private static void size() {
        CHECK.sentence("Promise 22: IllegalArgumentException, when there is no such gauge or what.");
        HarbourBoard x = used();
        of("size of levels, gauge ", Inputs.NO_GAUGES, g -> x.size(g, 0));
        of("size of winds, gauge ", Inputs.NO_GAUGES, g -> x.size(g, 1));
        for (int g = 0; g < 6; g++) {
            int gauge = g;
            of("size, what ", Inputs.NO_WHATS, what -> x.size(gauge, what));
        }
    }

    /** All but gauge 2 have two of each kind, all marks are SET, both probes are numbers. */
    private static HarbourBoard used() {
        HarbourBoard x = new HarbourBoard();
        for (int g = 0; g < 6; g++) {
            x.mark(g, 0, 4);
            x.mark(g, 1, 8);
            x.gale(g, 5);
            for (int v = 5; v < 7 && g != 2; v++) {
                x.level(g, v);
                x.wind(g, v);
            }
        }
        x.probe(6);
        x.probeWind(5);
        return x;
    }

    private static void of(String call, int[] wrong, OfInt made) {
        for (int i : wrong) {
            CHECK.refused(call + i, Inputs.IAE, () -> made.call(i));
        }
    }

    private static void ofLevels(String call, OfLevel made) {
        for (double v : Inputs.NO_LEVELS) {
            CHECK.refused(call + v, Inputs.IAE, () -> made.call(v));
        }
    }

    private static void ofWinds(String call, OfWind made) {
        for (float v : Inputs.NO_WINDS) {
            CHECK.refused(call + v, Inputs.IAE, () -> made.call(v));
        }
    }
}
