/** The edges that "What it is", "The public face" and "Terms" name: a test of its own for each sentence. */
public final class TermsEdgesTest {
    private static final Check CHECK = new Check();

    private static final double ABOVE_ONE = Math.nextUp(1.0);
    private static final float WIND_ABOVE_ONE = Math.nextUp(1.0f);

    public static void main(String[] args) {
        lastCallOfStrips();
        lastCallOfGate();
        none();
        gaugesThatAre();
        gaugesThatAreNot();
        whatsThatAre();
        whatsThatAreNot();
        oldestFirst();
        atMostTwelve();
        numberOrOut();
        levelsThatAre();
        levelsThatAreNot();
        windsThatAre();
        windsThatAreNot();
        latestIsLast();
        latestOfEmpty();
        marksAtFirst();
        probesAtFirst();
        relationsThatAreNot();
        betweenLevels();
        betweenWinds();
        betweenZeros();
        oneOut();
        bothOut();
        gateAtFirst();
        gateOfTwo();
        CHECK.end("TermsEdgesTest");
    }

    private static void lastCallOfStrips() {
        CHECK.sentence("An object is used for at most 512 calls after it has been made");
        HarbourBoard x = new HarbourBoard();
        for (int i = 0; i < 128; i++) {
            due("level in call " + (4 * i + 1), 1, x.level(5, i));
            due("wind in call " + (4 * i + 2), 1, x.wind(5, i));
            due("highest in call " + (4 * i + 3), (double) i, x.highest(5));
            due("clear in call " + (4 * i + 4), 2, x.clear(5));
        }
    }

    private static void lastCallOfGate() {
        CHECK.sentence("An object is used for at most 512 calls after it has been made");
        HarbourBoard x = new HarbourBoard();
        x.level(0, 1);
        x.level(1, 0);
        for (int i = 1; i <= 510; i++) {
            due("move in call " + (i + 2), i, x.move(i % 2 == 1));
        }
    }

    private static void none() {
        CHECK.sentence("NONE = -1");
        due("NONE", -1, HarbourBoard.NONE);
        due("pick of none", -1, new HarbourBoard().pick(0, 1, 0, 4));
    }

    private static void gaugesThatAre() {
        CHECK.sentence("GAUGES 0 .. 5.");
        for (int g = 0; g < 6; g++) {
            HarbourBoard x = new HarbourBoard();
            due("level of gauge " + g, 1, x.level(g, 3));
            due("wind of gauge " + g, 1, x.wind(g, 3));
            due("out of gauge " + g, 2, x.out(g, 0));
            due("mark of gauge " + g, false, x.mark(g, 0, 3));
            due("gale of gauge " + g, false, x.gale(g, 3));
            due("lift of gauge " + g, true, x.lift(g, 0));
            due("run of gauge " + g, 2, x.run(g, 0, 5, false));
            due("count of gauge " + g, 2, x.count(g, 0, 5, false));
            due("stand of gauge " + g, 21, x.stand(g));
            due("highest of gauge " + g, 3.0, x.highest(g));
            due("calmest of gauge " + g, 3.0f, x.calmest(g));
            due("size of gauge " + g, 2, x.size(g, 0));
            for (int h = 0; h < 6; h++) {
                due("holds of gauges " + g + ", " + h, true, x.holds(g, h, 0, 5));
                due("pick of gauges " + g + ", " + h, g, x.pick(g, h, 0, 5));
                due("same of gauges " + g + ", " + h, g == h ? 1 : 0, x.same(g, h));
            }
            due("clear of gauge " + g, 3, x.clear(g));
        }
    }

    private static void gaugesThatAreNot() {
        CHECK.sentence("GAUGES 0 .. 5.");
        HarbourBoard x = twoEach();
        refused("a gauge before the first", () -> x.size(-1, 0));
        refused("a gauge behind the last", () -> x.size(6, 0));
        refused("a level of a gauge before the first", () -> x.level(-1, 5));
        refused("a level of a gauge behind the last", () -> x.level(6, 5));
    }

    private static void whatsThatAre() {
        CHECK.sentence("Each has a STRIP of LEVELS and one of WINDS (what 0, 1)");
        for (int g = 0; g < 6; g++) {
            HarbourBoard x = new HarbourBoard();
            x.level(g, 1);
            x.level(g, 2);
            x.wind(g, 3);
            due("what 0 of gauge " + g + " is the levels", 2, x.size(g, 0));
            due("what 1 of gauge " + g + " is the winds", 1, x.size(g, 1));
            due("OUT comes to what 0 of gauge " + g, 3, x.out(g, 0));
            due("OUT comes to what 1 of gauge " + g, 2, x.out(g, 1));
            due("a probe of what 0 is one of levels", 0, x.probe(2));
            due("a probe of what 0 is one of levels", 1, x.count(g, 0, 4, false));
            due("a probe of what 1 is one of winds", 0, x.probeWind(3));
            due("a probe of what 1 is one of winds", 1, x.count(g, 1, 4, false));
        }
    }

    private static void whatsThatAreNot() {
        CHECK.sentence("(what 0, 1)");
        HarbourBoard x = twoEach();
        refused("a what before the first", () -> x.size(1, -1));
        refused("a what behind the last", () -> x.size(1, 2));
        refused("OUT to a what before the first", () -> x.out(1, -1));
        refused("OUT to a what behind the last", () -> x.out(1, 2));
    }

    private static void oldestFirst() {
        CHECK.sentence("the oldest first");
        HarbourBoard x = new HarbourBoard();
        for (int i = 1; i <= 12; i++) {
            x.level(3, i);
            x.wind(3, i);
        }
        for (int v = 0; v <= 13; v++) {
            x.probe(v);
            x.probeWind(v);
            int below = Math.min(Math.max(v - 1, 0), 12);
            due("levels below " + v + " from the oldest on", below, x.run(3, 0, 0, false));
            due("levels not below " + v + " from the latest on", 12 - below, x.run(3, 0, 0, true));
            due("winds below " + v + " from the oldest on", below, x.run(3, 1, 0, false));
            due("winds not below " + v + " from the latest on", 12 - below, x.run(3, 1, 0, true));
        }
    }

    private static void atMostTwelve() {
        CHECK.sentence("of at most 12 each");
        HarbourBoard x = new HarbourBoard();
        for (int i = 1; i <= 12; i++) {
            for (int g = 0; g < 6; g++) {
                due("level " + i + " of gauge " + g, i, x.level(g, g));
                due("wind " + i + " of gauge " + g, i, x.wind(g, g));
            }
        }
        for (int g = 0; g < 6; g++) {
            int gauge = g;
            CHECK.refused("level 13 of gauge " + g, Inputs.ISE, () -> x.level(gauge, 0));
            CHECK.refused("wind 13 of gauge " + g, Inputs.ISE, () -> x.wind(gauge, 0));
            CHECK.refused("level 13 of gauge " + g + ", OUT", Inputs.ISE, () -> x.out(gauge, 0));
            CHECK.refused("wind 13 of gauge " + g + ", OUT", Inputs.ISE, () -> x.out(gauge, 1));
            due("a full strip of levels", 12, x.size(g, 0));
            due("a full strip of winds", 12, x.size(g, 1));
        }
        due("two full strips", 24, x.clear(2));
        for (int i = 1; i <= 12; i++) {
            due("OUT " + i + " behind a clear", i, x.out(2, 0));
        }
        CHECK.refused("OUT 13 behind a clear", Inputs.ISE, () -> x.out(2, 0));
        due("its neighbours are full still", 12, x.size(1, 1));
        due("its neighbours are full still", 12, x.size(3, 0));
        due("its winds are empty still", 0, x.size(2, 1));
    }

    private static void numberOrOut() {
        CHECK.sentence("each of these is a number or OUT (it did not come)");
        HarbourBoard x = new HarbourBoard();
        // Numbers that one might take for OUT, and OUT, in turn.
        double[] levels = {0, -1000, 1000, -1, -0.0, Double.MIN_VALUE};
        float[] winds = {0, 200, -0.0f, Float.MIN_VALUE, 1, 199};
        for (int i = 0; i < 6; i++) {
            x.level(4, levels[i]);
            due("level " + levels[i] + " is a number", true, x.holds(4, 4, 0, 4));
            x.out(4, 0);
            due("OUT is no number", false, x.holds(4, 4, 0, 4));
            x.wind(4, winds[i]);
            due("wind " + winds[i] + " is a number", true, x.holds(4, 4, 1, 4));
            x.out(4, 1);
            due("OUT is no number", false, x.holds(4, 4, 1, 4));
        }
        x.probe(0);
        due("numbers among the levels", 6, x.count(4, 0, 1, false) + x.count(4, 0, 2, false));
        due("OUT among the levels", 6, 12 - x.count(4, 0, 0, false) - x.count(4, 0, 3, false));
        due("OUT among the levels is not equal to 0", 2, x.count(4, 0, 4, false));
        x.probeWind(0);
        due("OUT among the winds is not equal to 0", 2, x.count(4, 1, 4, false));
        due("OUT among the winds is not at least 0", 6, x.count(4, 1, 3, false));
    }

    private static void levelsThatAre() {
        CHECK.sentence("Levels are -1000 .. 1000");
        for (double v : Inputs.LEVELS_AT_THE_EDGE) {
            HarbourBoard x = new HarbourBoard();
            due("level " + v, 1, x.level(0, v));
            due("the level that came", v, x.highest(0));
            due("LOW " + v, false, x.mark(0, 0, v));
            due("at LOW " + v, 4, x.stand(0));
            x.lift(0, 0);
            due("HIGH " + v, false, x.mark(0, 1, v));
            due("at HIGH " + v, 4, x.stand(0));
            due("probe " + v, 1, x.probe(v));
        }
    }

    private static void levelsThatAreNot() {
        CHECK.sentence("Levels are -1000 .. 1000");
        HarbourBoard x = new HarbourBoard();
        for (double v : Inputs.NO_LEVELS) {
            refused("level " + v, () -> x.level(0, v));
            refused("LOW " + v, () -> x.mark(0, 0, v));
            refused("HIGH " + v, () -> x.mark(0, 1, v));
            refused("probe " + v, () -> x.probe(v));
        }
    }

    private static void windsThatAre() {
        CHECK.sentence("winds 0 .. 200");
        for (float v : Inputs.WINDS_AT_THE_EDGE) {
            HarbourBoard x = new HarbourBoard();
            due("wind " + v, 1, x.wind(0, v));
            due("the wind that came", v, x.calmest(0));
            due("GALE " + v, false, x.gale(0, v));
            due("at GALE " + v, 20, x.stand(0));
            due("probeWind " + v, 1, x.probeWind(v));
        }
    }

    private static void windsThatAreNot() {
        CHECK.sentence("winds 0 .. 200");
        HarbourBoard x = new HarbourBoard();
        for (float v : Inputs.NO_WINDS) {
            refused("wind " + v, () -> x.wind(0, v));
            refused("gale " + v, () -> x.gale(0, v));
            refused("probeWind " + v, () -> x.probeWind(v));
        }
    }

    private static void latestIsLast() {
        CHECK.sentence("The LATEST of a strip is its last one");
        HarbourBoard x = new HarbourBoard();
        for (int i = 1; i <= 12; i++) {
            // Up and down, so that neither the greatest nor the least is always the last.
            double v = i % 2 == 0 ? -i : i;
            x.level(5, v);
            due("the latest of " + i + " levels", 1, x.probe(v));
            x.wind(5, (i * 7) % 12);
            due("the latest of " + i + " winds", 1, x.probeWind((i * 7) % 12));
        }
    }

    private static void latestOfEmpty() {
        CHECK.sentence("OUT, when the strip is empty");
        HarbourBoard fresh = new HarbourBoard();
        HarbourBoard cleared = twoEach();
        for (int g = 0; g < 6; g++) {
            cleared.clear(g);
        }
        for (HarbourBoard x : new HarbourBoard[] {fresh, cleared}) {
            due("probe of empty strips", 0, x.probe(0));
            due("probeWind of empty strips", 0, x.probeWind(0));
            for (int what = 0; what < 2; what++) {
                for (int relation = 0; relation < 6; relation++) {
                    due("holds of empty strips", relation == 5, x.holds(0, 1, what, relation));
                    due("pick of empty strips", relation == 5 ? 3 : -1, x.pick(3, 2, what, relation));
                }
            }
            x.gale(4, 0);
            due("stand of an empty strip of winds", 30, x.stand(4));
            CHECK.refused("open between empty strips", Inputs.UOE, () -> x.move(true));
            x.level(5, -1000);
            due("an empty strip is behind all numbers", 5, x.order(0));
        }
    }

    private static void marksAtFirst() {
        CHECK.sentence("each is a number (SET) or OUT (not SET, at first)");
        for (int g = 0; g < 6; g++) {
            HarbourBoard x = new HarbourBoard();
            due("LOW at first", false, x.mark(g, 0, 0));
            due("LOW 0 is SET", true, x.mark(g, 0, 1));
            due("HIGH at first", false, x.mark(g, 1, 0));
            due("HIGH 0 is SET", true, x.mark(g, 1, 1));
            due("GALE at first", false, x.gale(g, 0));
            due("GALE 0 is SET", true, x.gale(g, 1));
        }
    }

    private static void probesAtFirst() {
        CHECK.sentence("There are a PROBE of levels and one of winds: a number or OUT (at first).");
        HarbourBoard x = twoEach();
        for (int what = 0; what < 2; what++) {
            for (int relation = 0; relation < 5; relation++) {
                due("nothing holds " + relation + " to OUT", 0, x.count(0, what, relation, false));
            }
            due("all are unlike OUT", 2, x.count(0, what, 5, false));
        }
        x.probe(0);
        due("the probe of levels is a number", 2, x.count(0, 0, 3, false));
        due("the probe of winds is OUT still", 0, x.count(0, 1, 3, false));
        x.probeWind(0);
        due("the probe of winds is a number", 2, x.count(0, 1, 3, false));
    }

    private static void relationsThatAreNot() {
        CHECK.sentence("RELATIONS: 0 below, 1 at most, 2 above, 3 at least, 4 equal to, 5 unlike.");
        HarbourBoard x = twoEach();
        refused("a relation before the first", () -> x.holds(0, 1, 0, -1));
        refused("a relation behind the last", () -> x.holds(0, 1, 0, 6));
        refused("a relation before the first, to OUT", () -> x.count(0, 0, -1, false));
        refused("a relation behind the last, to OUT", () -> x.count(0, 0, 6, false));
        refused("a relation before the first, of an empty strip", () -> x.run(2, 0, -1, true));
        refused("a relation behind the last, of an empty strip", () -> x.run(2, 0, 6, true));
    }

    private static void betweenLevels() {
        CHECK.sentence("Between two numbers as usual.");
        double[][] pairs = {{1, ABOVE_ONE}, {-1000, 1000}, {-ABOVE_ONE, -1}, {-Double.MIN_VALUE, 0},
            {0, Double.MIN_VALUE}, {Math.nextDown(1000.0), 1000}};
        for (double[] pair : pairs) {
            HarbourBoard x = new HarbourBoard();
            x.level(0, pair[0]);
            x.level(1, pair[1]);
            holdsAll(x, 0, "110001", "001101", "010110");
            x.probe(pair[1]);
            countAll(x, 0, "110001");
            x.probe(pair[0]);
            countAll(x, 0, "010110");
        }
    }

    private static void betweenWinds() {
        CHECK.sentence("Between two numbers as usual.");
        float[][] pairs = {{1, WIND_ABOVE_ONE}, {0, 200}, {0, Float.MIN_VALUE}, {Math.nextDown(200.0f), 200},
            {0.1f, Math.nextUp(0.1f)}};
        for (float[] pair : pairs) {
            HarbourBoard x = new HarbourBoard();
            x.wind(0, pair[0]);
            x.wind(1, pair[1]);
            holdsAll(x, 1, "110001", "001101", "010110");
            x.probeWind(pair[1]);
            countAll(x, 1, "110001");
            x.probeWind(pair[0]);
            countAll(x, 1, "010110");
        }
    }

    private static void betweenZeros() {
        CHECK.sentence("Between two numbers as usual.");
        HarbourBoard x = new HarbourBoard();
        x.level(0, -0.0);
        x.level(1, 0.0);
        x.wind(0, -0.0f);
        x.wind(1, 0.0f);
        for (int what = 0; what < 2; what++) {
            holdsAll(x, what, "010110", "010110", "010110");
        }
        x.probe(0.0);
        x.probeWind(0.0f);
        countAll(x, 0, "010110");
        countAll(x, 1, "010110");
        due("two zeros are the same", 2, x.same(0, 1));
    }

    private static void oneOut() {
        CHECK.sentence("If one of the two is OUT, or both are: 0 to 4 don't hold, 5 does.");
        HarbourBoard x = twoEach();
        x.out(0, 0);
        x.out(0, 1);
        for (int what = 0; what < 2; what++) {
            // Gauge 1 has a number as its latest, and gauge 0's own latest is OUT.
            holdsAll(x, what, "000001", "000001", "000001");
        }
        x.clear(0);
        x.level(0, 0);
        x.wind(0, 0);
        countAll(x, 0, "000001");
        countAll(x, 1, "000001");
        x.clear(0);
        x.out(0, 0);
        x.out(0, 1);
        x.probe(0);
        x.probeWind(0);
        countAll(x, 0, "000001");
        countAll(x, 1, "000001");
    }

    private static void bothOut() {
        CHECK.sentence("If one of the two is OUT, or both are: 0 to 4 don't hold, 5 does.");
        HarbourBoard x = new HarbourBoard();
        for (int what = 0; what < 2; what++) {
            x.out(0, what);
            x.out(1, what);
            holdsAll(x, what, "000001", "000001", "000001");
            countAll(x, what, "000001");
        }
    }

    private static void gateAtFirst() {
        CHECK.sentence("THE GATE, shut at first");
        HarbourBoard x = new HarbourBoard();
        CHECK.refused("shut what is shut", Inputs.ISE, () -> x.move(false));
        x.level(0, 1);
        x.level(1, 0);
        CHECK.refused("shut what is shut", Inputs.ISE, () -> x.move(false));
        due("open what is shut", 1, x.move(true));
    }

    private static void gateOfTwo() {
        CHECK.sentence("is between gauge 0, INSIDE, and gauge 1, OUTSIDE");
        HarbourBoard x = new HarbourBoard();
        for (int g = 2; g < 6; g++) {
            x.level(g, 0);
            x.mark(g, 0, -1000);
            x.mark(g, 1, 1000);
            x.gale(g, 0);
            x.wind(g, 200);
        }
        x.level(2, -1000);
        x.level(0, 2);
        CHECK.refused("open, when 0 is above 2 alone", Inputs.UOE, () -> x.move(true));
        x.level(1, 3);
        x.level(5, 1000);
        CHECK.refused("open, when 1 is above 0", Inputs.UOE, () -> x.move(true));
        x.level(0, 4);
        due("open, when 0 is above 1", 1, x.move(true));
        due("shut, whatever the others' marks are", 2, x.move(false));
    }

    /** Gauges 0, 1, 4 and 5 have the levels 5, 7 and the winds 7, 5; gauge 3 has one of each, 2 none. */
    private static HarbourBoard twoEach() {
        HarbourBoard x = new HarbourBoard();
        for (int g : new int[] {0, 1, 4, 5}) {
            x.level(g, 5);
            x.level(g, 7);
            x.wind(g, 7);
            x.wind(g, 5);
        }
        x.level(3, 1);
        x.wind(3, 1);
        return x;
    }

    /** Which relations gauge 0's latest holds to that of 1, 1's to that of 0, and 0's to itself. */
    private static void holdsAll(HarbourBoard x, int what, String there, String back, String itself) {
        for (int relation = 0; relation < 6; relation++) {
            String call = "relation " + relation + " of what " + what;
            due(call + ", 0 to 1", there.charAt(relation) == '1', x.holds(0, 1, what, relation));
            due(call + ", 1 to 0", back.charAt(relation) == '1', x.holds(1, 0, what, relation));
            due(call + ", 0 to 0", itself.charAt(relation) == '1', x.holds(0, 0, what, relation));
        }
    }

    /** Which relations the only one of gauge 0's strip holds to the probe. */
    private static void countAll(HarbourBoard x, int what, String relations) {
        for (int relation = 0; relation < 6; relation++) {
            int holding = relations.charAt(relation) - '0';
            String call = "relation " + relation + " of what " + what + " to the probe";
            due(call + ", count", holding, x.count(0, what, relation, false));
            due(call + ", count not", 1 - holding, x.count(0, what, relation, true));
            due(call + ", run", holding, x.run(0, what, relation, false));
            due(call + ", run back", 1 - holding, x.run(0, what, relation, true));
        }
    }

    private static void refused(String call, Check.Call made) {
        CHECK.refused(call, Inputs.IAE, made);
    }

    private static void due(String call, Object want, Object got) {
        CHECK.due(call, want, got);
    }
}
