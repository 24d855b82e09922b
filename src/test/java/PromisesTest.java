import java.util.NoSuchElementException;

/** Each promise by hand: ordinary inputs, the document's edges, wrong inputs. */
public final class PromisesTest {
    private static final Class<IllegalArgumentException> IAE = Inputs.IAE;
    private static final Class<IllegalStateException> ISE = Inputs.ISE;
    private static final Class<UnsupportedOperationException> UOE = Inputs.UOE;
    private static final Class<ArithmeticException> AE = Inputs.AE;
    private static final Class<NoSuchElementException> NSE = Inputs.NSE;

    private static final Check CHECK = new Check();

    public static void main(String[] args) {
        newObject();
        level();
        wind();
        out();
        clear();
        mark();
        gale();
        lift();
        probe();
        probeWind();
        probeOut();
        run();
        count();
        holds();
        pick();
        refusedOfPairs();
        standOfLevels();
        standOfWinds();
        order();
        highest();
        calmest();
        same();
        moveOpen();
        moveShut();
        size();
        allApart();
        CHECK.end("PromisesTest");
    }

    private static void newObject() {
        HarbourBoard x = new HarbourBoard();
        for (int g = 0; g < 6; g++) {
            due("new size", 0, x.size(g, 0));
            due("new size", 0, x.size(g, 1));
            due("new stand", 0, x.stand(g));
            due("new order", g, x.order(g));
            due("new clear", 0, x.clear(g));
            for (int mark = 0; mark < 3; mark++) {
                due("new lift", false, x.lift(g, mark));
            }
        }
        CHECK.refused("a new gate is shut", ISE, () -> x.move(false));
        x.level(0, 0);
        x.wind(0, 0);
        due("a new probe of levels is OUT", 0, x.count(0, 0, 4, false));
        due("a new probe of levels is OUT", 1, x.count(0, 0, 5, false));
        due("a new probe of winds is OUT", 0, x.count(0, 1, 4, false));
        due("a new probe of winds is OUT", 1, x.count(0, 1, 5, false));
        due("another object", 0, new HarbourBoard().size(0, 0));
    }

    private static void level() {
        HarbourBoard x = new HarbourBoard();
        due("level", 1, x.level(0, -1000));
        due("level", 2, x.level(0, 1000));
        due("level", 3, x.level(0, -0.0));
        due("level of another gauge", 1, x.level(5, 3.25));
        due("winds are apart", 0, x.size(0, 1));
        for (int i = 4; i <= 12; i++) {
            due("level", i, x.level(0, i));
        }
        CHECK.refused("level 13", ISE, () -> x.level(0, 1));
        CHECK.refused("level 13 of no level", IAE, () -> x.level(0, 1000.5));
        due("a full strip stays", 12, x.size(0, 0));
        due("a full strip's latest stays", 1, x.probe(12));
        for (int g : Inputs.NO_GAUGES) {
            CHECK.refused("level of gauge " + g, IAE, () -> x.level(g, 1));
        }
        for (double v : Inputs.NO_LEVELS) {
            CHECK.refused("level " + v, IAE, () -> x.level(1, v));
        }
        due("refused levels leave nothing", 0, x.size(1, 0));
        due("a full strip is emptied", 12, x.clear(0));
        due("level after clear", 1, x.level(0, 7));
    }

    private static void wind() {
        HarbourBoard x = new HarbourBoard();
        due("wind", 1, x.wind(0, 0));
        due("wind", 2, x.wind(0, 200));
        due("wind", 3, x.wind(0, -0.0f));
        due("wind of another gauge", 1, x.wind(5, 3.25f));
        due("levels are apart", 0, x.size(0, 0));
        for (int i = 4; i <= 12; i++) {
            due("wind", i, x.wind(0, i));
        }
        CHECK.refused("wind 13", ISE, () -> x.wind(0, 1));
        CHECK.refused("wind 13 of no wind", IAE, () -> x.wind(0, -1));
        due("levels still have room", 1, x.level(0, 1));
        due("a full strip's latest stays", 1, x.probeWind(12));
        for (int g : Inputs.NO_GAUGES) {
            CHECK.refused("wind of gauge " + g, IAE, () -> x.wind(g, 1));
        }
        for (float v : Inputs.NO_WINDS) {
            CHECK.refused("wind " + v, IAE, () -> x.wind(1, v));
        }
        due("refused winds leave nothing", 0, x.size(1, 1));
    }

    private static void out() {
        HarbourBoard x = new HarbourBoard();
        for (int what = 0; what < 2; what++) {
            int w = what;
            for (int i = 1; i <= 12; i++) {
                due("out", i, x.out(3, what));
            }
            CHECK.refused("out 13", ISE, () -> x.out(3, w));
            due("a full strip stays", 12, x.size(3, what));
        }
        CHECK.refused("a level behind 12 OUT", ISE, () -> x.level(3, 0));
        for (int g : Inputs.NO_GAUGES) {
            CHECK.refused("out of gauge " + g, IAE, () -> x.out(g, 0));
        }
        for (int what : Inputs.NO_WHATS) {
            CHECK.refused("out of what " + what, IAE, () -> x.out(3, what));
        }
        due("OUT is latest", false, latestIsNumber(x, 3));
        x.clear(3);
        x.level(3, 5);
        x.clear(3);
        x.out(3, 0);
        due("OUT where a number was", 1, x.stand(3));
        CHECK.refused("OUT where a number was", NSE, () -> x.highest(3));
    }

    private static boolean latestIsNumber(HarbourBoard x, int g) {
        return x.holds(g, g, 0, 4);
    }

    private static void clear() {
        HarbourBoard x = new HarbourBoard();
        x.level(2, 1);
        x.out(2, 0);
        x.out(2, 1);
        x.wind(2, 4);
        x.wind(2, 5);
        x.level(3, 9);
        x.mark(2, 0, 0);
        x.gale(2, 8);
        due("clear", 5, x.clear(2));
        due("clear of levels", 0, x.size(2, 0));
        due("clear of winds", 0, x.size(2, 1));
        due("clear again", 0, x.clear(2));
        due("another gauge stays", 1, x.size(3, 0));
        due("marks stay", true, x.lift(2, 0));
        due("marks stay", true, x.lift(2, 2));
        due("the latest of an emptied strip is OUT", false, latestIsNumber(x, 2));
        for (int g : Inputs.NO_GAUGES) {
            CHECK.refused("clear of gauge " + g, IAE, () -> x.clear(g));
        }
    }

    private static void mark() {
        HarbourBoard x = new HarbourBoard();
        due("mark LOW", false, x.mark(0, 0, -1000));
        due("mark LOW again", true, x.mark(0, 0, 1000));
        due("mark HIGH", false, x.mark(0, 1, 0));
        due("mark HIGH again", true, x.mark(0, 1, 0));
        due("mark of another gauge", false, x.mark(5, 0, 0));
        for (int g : Inputs.NO_GAUGES) {
            CHECK.refused("mark of gauge " + g, IAE, () -> x.mark(g, 0, 1));
        }
        for (int mark : Inputs.NO_LEVEL_MARKS) {
            CHECK.refused("mark " + mark, IAE, () -> x.mark(4, mark, 1));
        }
        for (double v : Inputs.NO_LEVELS) {
            CHECK.refused("mark " + v, IAE, () -> x.mark(4, 0, v));
        }
        due("a refused mark is not SET", false, x.lift(4, 0));
        due("GALE is not SET by mark", false, x.lift(4, 2));
    }

    private static void gale() {
        HarbourBoard x = new HarbourBoard();
        due("gale", false, x.gale(0, 0));
        due("gale again", true, x.gale(0, 200));
        due("gale of another gauge", false, x.gale(5, 1));
        due("LOW is apart", false, x.lift(0, 0));
        due("HIGH is apart", false, x.lift(0, 1));
        for (int g : Inputs.NO_GAUGES) {
            CHECK.refused("gale of gauge " + g, IAE, () -> x.gale(g, 1));
        }
        for (float v : Inputs.NO_WINDS) {
            CHECK.refused("gale " + v, IAE, () -> x.gale(4, v));
        }
        due("a refused gale is not SET", false, x.lift(4, 2));
    }

    private static void lift() {
        HarbourBoard x = new HarbourBoard();
        x.mark(1, 0, 0);
        x.mark(1, 1, 0);
        x.gale(1, 0);
        for (int mark = 0; mark < 3; mark++) {
            due("another gauge's lift", false, x.lift(2, mark));
            due("lift", true, x.lift(1, mark));
            due("lift again", false, x.lift(1, mark));
        }
        due("mark after lift", false, x.mark(1, 1, 3));
        for (int g : Inputs.NO_GAUGES) {
            CHECK.refused("lift of gauge " + g, IAE, () -> x.lift(g, 0));
        }
        for (int mark : Inputs.NO_MARKS) {
            CHECK.refused("lift of mark " + mark, IAE, () -> x.lift(1, mark));
        }
    }

    private static void probe() {
        HarbourBoard x = new HarbourBoard();
        due("probe of empty strips", 0, x.probe(0));
        x.level(0, 5);
        x.level(1, 5);
        x.level(1, 6);
        x.level(2, 5);
        x.out(2, 0);
        x.level(3, 0.0);
        x.level(4, -0.0);
        x.wind(5, 5);
        due("probe", 1, x.probe(5));
        due("probe", 1, x.probe(6));
        due("both zeros are equal", 2, x.probe(0.0));
        due("both zeros are equal", 2, x.probe(-0.0));
        due("probe at the edge", 0, x.probe(1000));
        due("probe at the edge", 0, x.probe(-1000));
        x.probe(5);
        for (double v : Inputs.NO_LEVELS) {
            CHECK.refused("probe " + v, IAE, () -> x.probe(v));
        }
        due("a refused probe stays", 1, x.count(0, 0, 4, false));
        due("the probe of winds is apart", 0, x.count(5, 1, 4, false));
        x.level(5, 0.1);
        due("a level is a double", 0, x.probe(0.1f));
        due("a level is a double", 1, x.probe(0.1));
    }

    private static void probeWind() {
        HarbourBoard x = new HarbourBoard();
        due("probeWind of empty strips", 0, x.probeWind(0));
        x.wind(0, 5);
        x.wind(1, 5);
        x.wind(1, 6);
        x.wind(2, 5);
        x.out(2, 1);
        x.wind(3, 0.0f);
        x.wind(4, -0.0f);
        x.level(5, 5);
        due("probeWind", 1, x.probeWind(5));
        due("probeWind", 1, x.probeWind(6));
        due("both zeros are equal", 2, x.probeWind(0.0f));
        due("both zeros are equal", 2, x.probeWind(-0.0f));
        due("probeWind at the edge", 0, x.probeWind(200));
        x.probeWind(5);
        for (float v : Inputs.NO_WINDS) {
            CHECK.refused("probeWind " + v, IAE, () -> x.probeWind(v));
        }
        due("a refused probe stays", 1, x.count(0, 1, 4, false));
        due("the probe of levels is apart", 0, x.count(5, 0, 4, false));
        x.wind(5, 0.1f);
        due("a wind is a float", 1, x.probeWind(0.1f));
    }

    private static void probeOut() {
        HarbourBoard x = new HarbourBoard();
        x.level(0, 5);
        x.out(1, 0);
        x.wind(0, 5);
        x.probe(5);
        x.probeWind(5);
        due("what is OUT is unlike all", 6, x.probeOut(0));
        due("the probe of levels is OUT", 0, x.count(0, 0, 4, false));
        due("the probe of winds stays", 1, x.count(0, 1, 4, false));
        due("what is OUT is unlike all", 6, x.probeOut(1));
        due("the probe of winds is OUT", 0, x.count(0, 1, 4, false));
        x.probe(5);
        for (int what : Inputs.NO_WHATS) {
            CHECK.refused("probeOut of what " + what, IAE, () -> x.probeOut(what));
        }
        due("a refused probeOut changes nothing", 1, x.count(0, 0, 4, false));
    }

    /** Gauge 4 has 2 1 OUT 3 2 3 of both kinds, the probes are 2. */
    private static HarbourBoard probed() {
        HarbourBoard x = new HarbourBoard();
        for (int v : new int[] {2, 1, 0, 3, 2, 3}) {
            if (v == 0) {
                x.out(4, 0);
                x.out(4, 1);
            } else {
                x.level(4, v);
                x.wind(4, v);
            }
        }
        x.probe(2);
        x.probeWind(2);
        return x;
    }

    private static void run() {
        HarbourBoard x = probed();
        int[] ahead = {0, 2, 0, 1, 1, 0};
        int[] back = {4, 1, 0, 0, 1, 0};
        for (int what = 0; what < 2; what++) {
            for (int relation = 0; relation < 6; relation++) {
                String call = "run of what " + what + ", relation " + relation;
                due(call, ahead[relation], x.run(4, what, relation, false));
                due(call + ", back", back[relation], x.run(4, what, relation, true));
                due(call + ", empty", 0, x.run(0, what, relation, false));
                due(call + ", empty, back", 0, x.run(0, what, relation, true));
            }
        }
        x.probeOut(0);
        due("run unlike OUT", 6, x.run(4, 0, 5, false));
        due("run back unlike OUT", 0, x.run(4, 0, 5, true));
        due("run equal to OUT", 0, x.run(4, 0, 4, false));
        due("run back equal to OUT", 6, x.run(4, 0, 4, true));
        refusedOfStrips(x);
    }

    private static void refusedOfStrips(HarbourBoard x) {
        for (boolean flag : new boolean[] {false, true}) {
            for (int g : Inputs.NO_GAUGES) {
                CHECK.refused("run of gauge " + g, IAE, () -> x.run(g, 0, 0, flag));
                CHECK.refused("count of gauge " + g, IAE, () -> x.count(g, 0, 0, flag));
            }
            for (int what : Inputs.NO_WHATS) {
                CHECK.refused("run of what " + what, IAE, () -> x.run(0, what, 0, flag));
                CHECK.refused("count of what " + what, IAE, () -> x.count(0, what, 0, flag));
            }
            for (int relation : Inputs.NO_RELATIONS) {
                CHECK.refused("run of relation " + relation, IAE, () -> x.run(0, 0, relation, flag));
                CHECK.refused("count of relation " + relation, IAE, () -> x.count(0, 0, relation, flag));
            }
        }
    }

    private static void count() {
        HarbourBoard x = probed();
        int[] hold = {1, 3, 2, 4, 2, 4};
        for (int what = 0; what < 2; what++) {
            for (int relation = 0; relation < 6; relation++) {
                String call = "count of what " + what + ", relation " + relation;
                due(call, hold[relation], x.count(4, what, relation, false));
                due(call + ", not", 6 - hold[relation], x.count(4, what, relation, true));
                due(call + ", empty", 0, x.count(0, what, relation, false));
                due(call + ", empty, not", 0, x.count(0, what, relation, true));
            }
        }
        x.clear(4);
        due("count after clear", 0, x.count(4, 0, 3, false));
        refusedOfStrips(x);
    }

    /** Of both kinds: gauge 0 has 3 as latest, 1 has 4, 2 has 3, 3 has OUT, 4 has OUT, 5 has none. */
    private static HarbourBoard filled() {
        HarbourBoard x = new HarbourBoard();
        int[] latest = {3, 4, 3};
        for (int g = 0; g < 3; g++) {
            x.level(g, 9 - g);
            x.level(g, latest[g]);
            x.wind(g, 9 - g);
            x.wind(g, latest[g]);
        }
        for (int g = 3; g < 5; g++) {
            x.level(g, 1);
            x.out(g, 0);
            x.wind(g, 1);
            x.out(g, 1);
        }
        return x;
    }

    private static void holds() {
        HarbourBoard x = filled();
        holdsAll(x, 0, 1, "110001");
        holdsAll(x, 1, 0, "001101");
        holdsAll(x, 0, 2, "010110");
        holdsAll(x, 2, 2, "010110");
        for (int g = 0; g < 6; g++) {
            for (int outed = 3; outed < 6; outed++) {
                holdsAll(x, g, outed, "000001");
                holdsAll(x, outed, g, "000001");
            }
        }
    }

    /** On a board of its own: with what was asked before it would have more than 512 calls. */
    private static void refusedOfPairs() {
        HarbourBoard x = filled();
        for (int g : Inputs.NO_GAUGES) {
            CHECK.refused("holds of gauge " + g, IAE, () -> x.holds(g, 0, 0, 0));
            CHECK.refused("holds to gauge " + g, IAE, () -> x.holds(0, g, 0, 0));
            CHECK.refused("pick of gauge " + g, IAE, () -> x.pick(g, 0, 0, 0));
            CHECK.refused("pick or gauge " + g, IAE, () -> x.pick(0, g, 0, 0));
        }
        for (int what : Inputs.NO_WHATS) {
            CHECK.refused("holds of what " + what, IAE, () -> x.holds(0, 0, what, 0));
            CHECK.refused("pick of what " + what, IAE, () -> x.pick(0, 0, what, 0));
        }
        for (int relation : Inputs.NO_RELATIONS) {
            CHECK.refused("holds of relation " + relation, IAE, () -> x.holds(0, 0, 0, relation));
            CHECK.refused("pick of relation " + relation, IAE, () -> x.pick(0, 0, 0, relation));
        }
    }

    private static void holdsAll(HarbourBoard x, int g, int h, String relations) {
        for (int what = 0; what < 2; what++) {
            for (int relation = 0; relation < 6; relation++) {
                due("holds(" + g + ", " + h + ", " + what + ", " + relation + ")",
                    relations.charAt(relation) == '1', x.holds(g, h, what, relation));
            }
        }
    }

    private static void pick() {
        HarbourBoard x = filled();
        int none = HarbourBoard.NONE;
        pickAll(x, 0, 1, new int[] {0, 0, 1, 1, none, 0});
        pickAll(x, 1, 0, new int[] {0, 0, 1, 1, none, 1});
        pickAll(x, 0, 2, new int[] {none, 0, none, 0, 0, none});
        pickAll(x, 2, 0, new int[] {none, 2, none, 2, 2, none});
        for (int g = 0; g < 6; g++) {
            for (int outed = 3; outed < 6; outed++) {
                pickAll(x, g, outed, new int[] {none, none, none, none, none, g});
                pickAll(x, outed, g, new int[] {none, none, none, none, none, outed});
            }
        }
    }

    private static void pickAll(HarbourBoard x, int g, int h, int[] picked) {
        for (int what = 0; what < 2; what++) {
            for (int relation = 0; relation < 6; relation++) {
                due("pick(" + g + ", " + h + ", " + what + ", " + relation + ")",
                    picked[relation], x.pick(g, h, what, relation));
            }
        }
    }

    private static void standOfLevels() {
        HarbourBoard x = new HarbourBoard();
        due("stand, no levels", 0, x.stand(5));
        x.out(5, 0);
        due("stand, OUT", 1, x.stand(5));
        x.level(5, 4);
        due("stand, no marks", 5, x.stand(5));
        x.mark(5, 0, 4.5);
        due("stand below LOW", 2, x.stand(5));
        x.mark(5, 1, 3);
        due("stand below LOW and above HIGH", 2, x.stand(5));
        x.mark(5, 0, 4);
        due("stand at LOW and above HIGH", 3, x.stand(5));
        x.lift(5, 0);
        due("stand above HIGH", 3, x.stand(5));
        x.mark(5, 1, 4);
        due("stand at HIGH, no LOW", 4, x.stand(5));
        x.mark(5, 0, 3);
        due("stand at HIGH above LOW", 4, x.stand(5));
        x.mark(5, 1, 5);
        due("stand between", 6, x.stand(5));
        x.mark(5, 0, 4);
        due("stand at LOW", 4, x.stand(5));
        x.lift(5, 1);
        due("stand at LOW, no HIGH", 4, x.stand(5));
        x.mark(5, 0, 3);
        due("stand above LOW, no HIGH", 6, x.stand(5));
        x.lift(5, 0);
        x.mark(5, 1, 5);
        due("stand below HIGH, no LOW", 6, x.stand(5));
        x.out(5, 0);
        due("stand OUT with marks", 1, x.stand(5));
        x.clear(5);
        due("stand empty with marks", 0, x.stand(5));
        for (int g : Inputs.NO_GAUGES) {
            CHECK.refused("stand of gauge " + g, IAE, () -> x.stand(g));
        }
    }

    private static void standOfWinds() {
        HarbourBoard x = new HarbourBoard();
        x.wind(0, 7);
        due("stand, no GALE", 0, x.stand(0));
        x.gale(0, 7.5f);
        due("stand below GALE", 10, x.stand(0));
        x.gale(0, 7);
        due("stand at GALE", 20, x.stand(0));
        x.gale(0, 6);
        due("stand above GALE", 20, x.stand(0));
        x.out(0, 1);
        due("stand, wind OUT", 30, x.stand(0));
        x.level(0, 1);
        due("stand of both", 35, x.stand(0));
        x.lift(0, 2);
        due("stand, no GALE, wind OUT", 5, x.stand(0));
        x.clear(0);
        x.gale(0, 1);
        due("stand, no winds", 30, x.stand(0));
        x.out(0, 0);
        due("stand, no winds, level OUT", 31, x.stand(0));
        due("another gauge's stand", 0, x.stand(1));
    }

    private static void order() {
        HarbourBoard x = new HarbourBoard();
        x.out(0, 0);
        x.level(1, -1000);
        x.level(2, 5);
        x.level(4, 9);
        x.level(4, 5);
        x.level(5, 6);
        orderAll(x, 5, 2, 4, 1, 0, 3);
        x.level(3, -0.0);
        x.level(0, 0.0);
        orderAll(x, 5, 2, 4, 0, 3, 1);
        x.level(0, -0.0);
        x.level(3, 0.0);
        orderAll(x, 5, 2, 4, 0, 3, 1);
        x.out(5, 0);
        x.clear(2);
        orderAll(x, 4, 0, 3, 1, 2, 5);
        for (int k : Inputs.NO_GAUGES) {
            CHECK.refused("order of " + k, IAE, () -> x.order(k));
        }
    }

    private static void orderAll(HarbourBoard x, int... gauges) {
        for (int k = 0; k < 6; k++) {
            due("order(" + k + ")", gauges[k], x.order(k));
        }
    }

    private static void highest() {
        HarbourBoard x = new HarbourBoard();
        CHECK.refused("highest of none", NSE, () -> x.highest(2));
        x.out(2, 0);
        x.wind(2, 4);
        CHECK.refused("highest of OUT", NSE, () -> x.highest(2));
        x.level(2, -7.5);
        due("highest below zero", -7.5, x.highest(2));
        x.level(2, -1000);
        x.out(2, 0);
        due("highest is not the latest", -7.5, x.highest(2));
        x.level(2, 0.1);
        due("highest is a double", 0.1, x.highest(2));
        x.level(2, 1000);
        x.level(2, 3);
        due("highest", 1000.0, x.highest(2));
        CHECK.refused("another gauge's highest", NSE, () -> x.highest(1));
        x.clear(2);
        CHECK.refused("highest after clear", NSE, () -> x.highest(2));
        x.level(2, -8);
        due("highest after clear is none of before", -8.0, x.highest(2));
        for (int g : Inputs.NO_GAUGES) {
            CHECK.refused("highest of gauge " + g, IAE, () -> x.highest(g));
        }
    }

    private static void calmest() {
        HarbourBoard x = new HarbourBoard();
        CHECK.refused("calmest of none", NSE, () -> x.calmest(2));
        x.out(2, 1);
        x.level(2, 4);
        CHECK.refused("calmest of OUT", NSE, () -> x.calmest(2));
        x.wind(2, 200);
        due("calmest", 200.0f, x.calmest(2));
        x.wind(2, 0.1f);
        x.wind(2, 8);
        x.out(2, 1);
        due("calmest is not the latest, and the float that came", 0.1f, x.calmest(2));
        x.wind(2, 0);
        due("calmest of all", 0.0f, x.calmest(2));
        CHECK.refused("another gauge's calmest", NSE, () -> x.calmest(3));
        x.clear(2);
        CHECK.refused("calmest after clear", NSE, () -> x.calmest(2));
        x.wind(2, 199);
        due("calmest after clear is none of before", 199.0f, x.calmest(2));
        for (int g : Inputs.NO_GAUGES) {
            CHECK.refused("calmest of gauge " + g, IAE, () -> x.calmest(g));
        }
    }

    private static void same() {
        HarbourBoard x = new HarbourBoard();
        sameBoth(x, 0, 1, 2);
        sameBoth(x, 0, 0, 2);
        x.level(0, 4);
        sameBoth(x, 0, 1, 0);
        sameBoth(x, 0, 0, 2);
        x.level(1, 4);
        x.wind(1, 4);
        sameBoth(x, 0, 1, 2);
        x.out(0, 0);
        x.out(1, 0);
        sameBoth(x, 0, 1, 1);
        sameBoth(x, 0, 0, 1);
        x.level(0, -0.0);
        x.level(1, 0.0);
        sameBoth(x, 0, 1, 1);
        x.level(0, 5);
        x.out(1, 0);
        sameBoth(x, 0, 1, 0);
        x.level(0, 6);
        x.level(1, 6);
        sameBoth(x, 0, 1, 0);
        x.level(4, 1);
        x.level(5, 2);
        sameBoth(x, 4, 5, 0);
        for (int g : Inputs.NO_GAUGES) {
            CHECK.refused("same of gauge " + g, IAE, () -> x.same(g, 0));
            CHECK.refused("same and gauge " + g, IAE, () -> x.same(0, g));
        }
    }

    private static void sameBoth(HarbourBoard x, int g, int h, int want) {
        due("same(" + g + ", " + h + ")", want, x.same(g, h));
        due("same(" + h + ", " + g + ")", want, x.same(h, g));
    }

    private static void moveOpen() {
        HarbourBoard x = new HarbourBoard();
        x.gale(1, 10);
        CHECK.refused("open, no levels", UOE, () -> x.move(true));
        x.level(0, 5);
        CHECK.refused("open, OUTSIDE is OUT", UOE, () -> x.move(true));
        x.level(1, 5);
        CHECK.refused("open, both equal", UOE, () -> x.move(true));
        x.level(1, 6);
        CHECK.refused("open, INSIDE below", UOE, () -> x.move(true));
        x.level(1, 4);
        CHECK.refused("open, wind OUT", AE, () -> x.move(true));
        x.wind(1, 10);
        CHECK.refused("open, wind at GALE", AE, () -> x.move(true));
        x.wind(1, 11);
        CHECK.refused("open, wind above GALE", AE, () -> x.move(true));
        x.out(1, 1);
        CHECK.refused("open, wind OUT behind others", AE, () -> x.move(true));
        CHECK.refused("shut, when shut", ISE, () -> x.move(false));
        x.wind(1, 9.5f);
        due("open", 1, x.move(true));
        CHECK.refused("open, when open", ISE, () -> x.move(true));
        due("shut", 2, x.move(false));
        x.out(1, 1);
        x.lift(1, 2);
        x.gale(0, 0);
        x.wind(0, 200);
        due("open without GALE", 3, x.move(true));
        x.out(0, 0);
        CHECK.refused("open, when open, INSIDE OUT", ISE, () -> x.move(true));
    }

    private static HarbourBoard opened() {
        HarbourBoard x = new HarbourBoard();
        x.level(0, 5);
        x.level(1, 4);
        x.move(true);
        return x;
    }

    private static void moveShut() {
        HarbourBoard x = opened();
        x.mark(0, 0, 4.5);
        x.mark(0, 1, 4);
        CHECK.refused("shut above LOW", UOE, () -> x.move(false));
        x.mark(0, 0, 5);
        CHECK.refused("shut, OUTSIDE at HIGH", AE, () -> x.move(false));
        x.mark(0, 1, 9);
        CHECK.refused("shut, OUTSIDE below HIGH", AE, () -> x.move(false));
        x.mark(0, 1, 3.5);
        due("shut at LOW, OUTSIDE above HIGH", 2, x.move(false));

        HarbourBoard y = opened();
        y.mark(0, 0, -1000);
        y.mark(0, 1, 1000);
        y.out(0, 0);
        CHECK.refused("shut, INSIDE is OUT, OUTSIDE below HIGH", AE, () -> y.move(false));
        y.out(1, 0);
        due("shut, both OUT", 2, y.move(false));

        HarbourBoard z = opened();
        z.mark(1, 0, -1000);
        z.mark(1, 1, 1000);
        due("shut, OUTSIDE's marks don't count", 2, z.move(false));
        CHECK.refused("shut again", ISE, () -> z.move(false));

        HarbourBoard emptied = opened();
        emptied.mark(0, 0, 0);
        emptied.mark(0, 1, 1000);
        emptied.clear(0);
        emptied.clear(1);
        due("shut, both empty", 2, emptied.move(false));
    }

    private static void size() {
        HarbourBoard x = new HarbourBoard();
        x.level(3, 1);
        x.out(3, 0);
        x.wind(3, 1);
        due("size of levels", 2, x.size(3, 0));
        due("size of winds", 1, x.size(3, 1));
        due("size of another", 0, x.size(2, 0));
        due("size of another", 0, x.size(4, 0));
        for (int g : Inputs.NO_GAUGES) {
            CHECK.refused("size of gauge " + g, IAE, () -> x.size(g, 0));
        }
        for (int what : Inputs.NO_WHATS) {
            CHECK.refused("size of what " + what, IAE, () -> x.size(3, what));
        }
    }

    /** With every strip full, every mark SET and both probes numbers, none changes another. */
    private static void allApart() {
        HarbourBoard x = new HarbourBoard();
        x.probe(-700);
        x.probeWind(77);
        for (int g = 0; g < 6; g++) {
            due("LOW is new", false, x.mark(g, 0, 100 * g + 11.5));
            due("HIGH is new", false, x.mark(g, 1, 100 * g + 12.5));
            due("GALE is new", false, x.gale(g, 10 * g + 11));
        }
        for (int g = 0; g < 6; g++) {
            for (int i = 0; i < 12; i++) {
                x.level(g, 100 * g + i + 1);
                x.wind(g, 10 * g + 12 - i);
            }
        }
        due("the probe of levels stays", 0, x.count(0, 0, 0, false));
        for (int g = 0; g < 6; g++) {
            due("highest of all", 100.0 * g + 12, x.highest(g));
            due("calmest of all", 10.0f * g + 1, x.calmest(g));
            due("stand of all", 16, x.stand(g));
            due("order of all", 5 - g, x.order(g));
            due("the probe of levels stays", 12, x.count(g, 0, 2, false));
            due("the probe of winds stays", 12, x.count(g, 1, 0, false));
        }
        due("the probe of levels goes alone", 1, x.probe(312));
        due("the probe of winds stays", 12, x.count(5, 1, 0, false));
        due("GALE stays", 16, x.stand(5));
        for (int g = 0; g < 6; g++) {
            for (int mark = 0; mark < 3; mark++) {
                due("each mark was SET", true, x.lift(g, mark));
            }
            due("the marks of others stay", g == 5 ? 5 : 16, x.stand(5));
        }
        due("the probe of levels stays", 1, x.count(3, 0, 4, false));
        due("the probe of winds stays", 12, x.count(5, 1, 0, false));
    }

    private static void due(String call, Object want, Object got) {
        CHECK.due(call, want, got);
    }
}
