import java.util.ArrayList;
import java.util.List;
import java.util.function.Function;

/** The document's last sentence of "Terms", in its two parts: which exception is thrown, and what it leaves. */
public final class RefusalsTest {
    private static final Check CHECK = new Check();

    /** A call of a board that it is given. */
    private interface Refused extends Function<HarbourBoard, Object> {
    }

    public static void main(String[] args) {
        namedFirstOfFullStrips();
        namedFirstOfNoGauge();
        namedFirstOfOpening();
        namedFirstOfShutting();
        nothingChangesByGauges();
        nothingChangesByWhats();
        nothingChangesByMarks();
        nothingChangesByRelations();
        nothingChangesByLevels();
        nothingChangesByWinds();
        nothingChangesByFullStrips();
        nothingChangesByNoNumber();
        nothingChangesByGate();
        CHECK.end("RefusalsTest");
    }

    private static void namedFirst() {
        CHECK.sentence("Of several exceptions of a call the one named first is thrown");
    }

    private static void namedFirstOfFullStrips() {
        namedFirst();
        HarbourBoard x = new HarbourBoard();
        for (int i = 0; i < 12; i++) {
            for (int g = 0; g < 6; g += 5) {
                x.level(g, i);
                x.wind(g, i);
            }
        }
        for (int g = 0; g < 6; g += 5) {
            int gauge = g;
            for (double v : Inputs.NO_LEVELS) {
                CHECK.refused("no level to a full strip", Inputs.IAE, () -> x.level(gauge, v));
            }
            for (float v : Inputs.NO_WINDS) {
                CHECK.refused("no wind to a full strip", Inputs.IAE, () -> x.wind(gauge, v));
            }
            for (int what : Inputs.NO_WHATS) {
                CHECK.refused("OUT to no strip of full ones", Inputs.IAE, () -> x.out(gauge, what));
            }
            CHECK.refused("a level to a full strip", Inputs.ISE, () -> x.level(gauge, 0));
            CHECK.refused("a wind to a full strip", Inputs.ISE, () -> x.wind(gauge, 0));
            CHECK.refused("OUT to a full strip", Inputs.ISE, () -> x.out(gauge, 0));
            CHECK.refused("OUT to a full strip", Inputs.ISE, () -> x.out(gauge, 1));
        }
        for (int g : Inputs.NO_GAUGES) {
            CHECK.refused("a level to no gauge", Inputs.IAE, () -> x.level(g, 0));
            CHECK.refused("a wind to no gauge", Inputs.IAE, () -> x.wind(g, 0));
            CHECK.refused("OUT to no gauge", Inputs.IAE, () -> x.out(g, 0));
            CHECK.refused("OUT to no gauge", Inputs.IAE, () -> x.out(g, 1));
        }
    }

    private static void namedFirstOfNoGauge() {
        namedFirst();
        HarbourBoard x = new HarbourBoard();
        for (int g : Inputs.NO_GAUGES) {
            CHECK.refused("the highest of no gauge, where there are no numbers", Inputs.IAE, () -> x.highest(g));
            CHECK.refused("the calmest of no gauge, where there are no numbers", Inputs.IAE, () -> x.calmest(g));
        }
    }

    private static void namedFirstOfOpening() {
        namedFirst();
        HarbourBoard x = new HarbourBoard();
        x.level(0, 6);
        x.level(1, 5);
        x.move(true);
        x.gale(1, 0);
        CHECK.refused("is open, in a gale", Inputs.ISE, () -> x.move(true));
        x.level(0, 5);
        CHECK.refused("is open, in a gale, INSIDE not above", Inputs.ISE, () -> x.move(true));
        x.lift(1, 2);
        CHECK.refused("is open, INSIDE not above", Inputs.ISE, () -> x.move(true));
        x.move(false);
        CHECK.refused("INSIDE not above", Inputs.UOE, () -> x.move(true));
        x.gale(1, 0);
        CHECK.refused("INSIDE not above, in a gale", Inputs.UOE, () -> x.move(true));
        x.out(0, 0);
        CHECK.refused("INSIDE OUT, in a gale", Inputs.UOE, () -> x.move(true));
        x.level(0, 6);
        CHECK.refused("in a gale", Inputs.AE, () -> x.move(true));
    }

    private static void namedFirstOfShutting() {
        namedFirst();
        HarbourBoard x = new HarbourBoard();
        x.level(0, 6);
        x.level(1, 5);
        x.mark(0, 1, 5);
        CHECK.refused("is shut, OUTSIDE at HIGH", Inputs.ISE, () -> x.move(false));
        x.mark(0, 0, 5);
        CHECK.refused("is shut, OUTSIDE at HIGH, INSIDE above LOW", Inputs.ISE, () -> x.move(false));
        x.lift(0, 1);
        CHECK.refused("is shut, INSIDE above LOW", Inputs.ISE, () -> x.move(false));
        x.move(true);
        CHECK.refused("INSIDE above LOW", Inputs.UOE, () -> x.move(false));
        x.mark(0, 1, 5);
        CHECK.refused("INSIDE above LOW, OUTSIDE at HIGH", Inputs.UOE, () -> x.move(false));
        x.mark(0, 0, 6);
        CHECK.refused("OUTSIDE at HIGH", Inputs.AE, () -> x.move(false));
    }

    private static void nothingChangesByGauges() {
        for (int g : Inputs.NO_GAUGES) {
            unchanged("level of gauge " + g, Inputs.IAE, x -> x.level(g, 3));
            unchanged("wind of gauge " + g, Inputs.IAE, x -> x.wind(g, 3));
            unchanged("clear of gauge " + g, Inputs.IAE, x -> x.clear(g));
            unchanged("gale of gauge " + g, Inputs.IAE, x -> x.gale(g, 3));
            for (int i = 0; i < 2; i++) {
                int which = i;
                unchanged("out of gauge " + g, Inputs.IAE, x -> x.out(g, which));
                unchanged("mark of gauge " + g, Inputs.IAE, x -> x.mark(g, which, 3));
            }
            for (int i = 0; i < 3; i++) {
                int mark = i;
                unchanged("lift of gauge " + g, Inputs.IAE, x -> x.lift(g, mark));
            }
            unchangedByLooks(g, 0, 4);
            unchanged("stand of gauge " + g, Inputs.IAE, x -> x.stand(g));
            unchanged("order of " + g, Inputs.IAE, x -> x.order(g));
            unchanged("highest of gauge " + g, Inputs.IAE, x -> x.highest(g));
            unchanged("calmest of gauge " + g, Inputs.IAE, x -> x.calmest(g));
            unchanged("same of gauge " + g, Inputs.IAE, x -> x.same(g, 0));
            unchanged("same and gauge " + g, Inputs.IAE, x -> x.same(0, g));
        }
    }

    private static void nothingChangesByWhats() {
        for (int what : Inputs.NO_WHATS) {
            unchanged("out of what " + what, Inputs.IAE, x -> x.out(0, what));
            unchanged("out of what " + what, Inputs.IAE, x -> x.out(5, what));
            unchanged("probeOut of what " + what, Inputs.IAE, x -> x.probeOut(what));
            unchangedByLooks(0, what, 4);
        }
    }

    private static void nothingChangesByMarks() {
        for (int mark : Inputs.NO_LEVEL_MARKS) {
            unchanged("mark " + mark, Inputs.IAE, x -> x.mark(0, mark, 3));
            unchanged("mark " + mark, Inputs.IAE, x -> x.mark(5, mark, 3));
        }
        for (int mark : Inputs.NO_MARKS) {
            unchanged("lift of mark " + mark, Inputs.IAE, x -> x.lift(0, mark));
            unchanged("lift of mark " + mark, Inputs.IAE, x -> x.lift(5, mark));
        }
    }

    private static void nothingChangesByRelations() {
        for (int relation : Inputs.NO_RELATIONS) {
            unchangedByLooks(0, 0, relation);
            unchangedByLooks(5, 1, relation);
        }
    }

    private static void unchangedByLooks(int g, int what, int relation) {
        String which = "(" + g + ", " + what + ", " + relation + ")";
        unchanged("run" + which, Inputs.IAE, x -> x.run(g, what, relation, false));
        unchanged("run back" + which, Inputs.IAE, x -> x.run(g, what, relation, true));
        unchanged("count" + which, Inputs.IAE, x -> x.count(g, what, relation, false));
        unchanged("count not" + which, Inputs.IAE, x -> x.count(g, what, relation, true));
        unchanged("holds" + which, Inputs.IAE, x -> x.holds(g, 1, what, relation));
        unchanged("holds to" + which, Inputs.IAE, x -> x.holds(1, g, what, relation));
        unchanged("pick" + which, Inputs.IAE, x -> x.pick(g, 1, what, relation));
        unchanged("pick or" + which, Inputs.IAE, x -> x.pick(1, g, what, relation));
        if (relation == 4) {
            unchanged("size" + which, Inputs.IAE, x -> x.size(g, what));
        }
    }

    private static void nothingChangesByLevels() {
        for (double v : Inputs.NO_LEVELS) {
            for (int g = 0; g < 6; g++) {
                int gauge = g;
                unchanged("level " + v + " of gauge " + g, Inputs.IAE, x -> x.level(gauge, v));
                unchanged("LOW " + v + " of gauge " + g, Inputs.IAE, x -> x.mark(gauge, 0, v));
                unchanged("HIGH " + v + " of gauge " + g, Inputs.IAE, x -> x.mark(gauge, 1, v));
            }
            unchanged("probe " + v, Inputs.IAE, x -> x.probe(v));
        }
    }

    private static void nothingChangesByWinds() {
        for (float v : Inputs.NO_WINDS) {
            for (int g = 0; g < 6; g++) {
                int gauge = g;
                unchanged("wind " + v + " of gauge " + g, Inputs.IAE, x -> x.wind(gauge, v));
                unchanged("GALE " + v + " of gauge " + g, Inputs.IAE, x -> x.gale(gauge, v));
            }
            unchanged("probeWind " + v, Inputs.IAE, x -> x.probeWind(v));
        }
    }

    private static void nothingChangesByFullStrips() {
        unchanged("a level to a full strip", Inputs.ISE, x -> x.level(4, 3));
        unchanged("OUT to a full strip of levels", Inputs.ISE, x -> x.out(4, 0));
        unchanged("a wind to a full strip", Inputs.ISE, x -> x.wind(5, 3));
        unchanged("OUT to a full strip of winds", Inputs.ISE, x -> x.out(5, 1));
    }

    private static void nothingChangesByNoNumber() {
        unchanged("the highest of an empty strip", Inputs.NSE, x -> x.highest(2));
        unchanged("the highest of OUT alone", Inputs.NSE, x -> x.highest(3));
        unchanged("the calmest of an empty strip", Inputs.NSE, x -> x.calmest(2));
        unchanged("the calmest of OUT alone", Inputs.NSE, x -> x.calmest(3));
    }

    private static void nothingChangesByGate() {
        unchanged("shut, when shut", Inputs.ISE, x -> x.move(false));
        unchanged("open, INSIDE not above", Inputs.UOE, x -> x.move(true));
        unchangedBehind("open, in a gale", Inputs.AE, x -> x.level(0, 8), x -> x.move(true));
        unchangedBehind("open, when open", Inputs.ISE, RefusalsTest::open, x -> x.move(true));
        unchangedBehind("shut, INSIDE above LOW", Inputs.UOE, RefusalsTest::open, x -> x.move(false));
        unchangedBehind("shut, OUTSIDE at HIGH", Inputs.AE, RefusalsTest::openAndLift, x -> x.move(false));
    }

    private static Object open(HarbourBoard x) {
        x.level(0, 8);
        x.gale(1, 9);
        return x.move(true);
    }

    private static Object openAndLift(HarbourBoard x) {
        open(x);
        x.lift(0, 0);
        return x.mark(0, 1, 7);
    }

    private static void unchanged(String call, Class<? extends RuntimeException> due, Refused made) {
        unchangedBehind(call, due, x -> null, made);
    }

    /** One board makes the refused call behind the first, its twin does not: all that can be seen is the same. */
    private static void unchangedBehind(
            String call, Class<? extends RuntimeException> due, Refused first, Refused made) {
        CHECK.sentence("a call that throws changes nothing");
        HarbourBoard board = fixture();
        HarbourBoard twin = fixture();
        first.apply(board);
        first.apply(twin);
        CHECK.refused(call, due, () -> made.apply(board));
        CHECK.due("what is seen after " + call, picture(twin), picture(board));
    }

    /**
     * Gauges 0, 1: few of all; 2: none; 3: OUT alone; 4: full levels, a wind; 5: full winds, a level.
     * All marks are SET, both probes are numbers.
     */
    private static HarbourBoard fixture() {
        HarbourBoard x = new HarbourBoard();
        for (int g = 0; g < 2; g++) {
            x.level(g, 5 + g);
            x.out(g, 0);
            x.level(g, 6 + g);
            x.wind(g, 7);
            x.out(g, 1);
            x.wind(g, 5);
        }
        x.out(3, 0);
        x.out(3, 1);
        for (int i = 1; i <= 12; i++) {
            x.level(4, i);
            x.wind(5, i);
        }
        x.wind(4, 7);
        x.level(5, 6);
        for (int g = 0; g < 6; g++) {
            x.mark(g, 0, 4);
            x.mark(g, 1, 8);
            x.gale(g, 5);
        }
        x.probe(6);
        x.probeWind(7);
        return x;
    }

    /**
     * Every answer that tells something of the board; the later ones change it to see more. With the
     * fixture these are some 340 calls, under the 512 that the document allows.
     */
    private static List<Object> picture(HarbourBoard x) {
        List<Object> seen = new ArrayList<>();
        for (int g = 0; g < 6; g++) {
            seeStrips(x, g, seen);
        }
        for (int g = 0; g < 6; g++) {
            seeMarks(x, g, seen);
        }
        seeGate(x, seen);
        return seen;
    }

    private static void seeStrips(HarbourBoard x, int g, List<Object> seen) {
        seen.add(x.stand(g));
        seen.add(x.order(g));
        seen.add(Check.outcome(() -> x.highest(g)));
        seen.add(Check.outcome(() -> x.calmest(g)));
        seen.add(x.same(g, (g + 1) % 6));
        for (int what = 0; what < 2; what++) {
            seen.add(x.size(g, what));
            for (int relation = 0; relation < 5; relation += 2) {
                seen.add(x.count(g, what, relation, false));
                seen.add(x.run(g, what, relation, false));
                seen.add(x.run(g, what, relation, true));
            }
        }
    }

    /** With levels and winds round the marks, so that a mark that moved is seen. */
    private static void seeMarks(HarbourBoard x, int g, List<Object> seen) {
        seen.add(x.clear(g));
        for (int v = 3; v <= 9; v += 2) {
            x.level(g, v);
            seen.add(x.stand(g));
        }
        for (int v = 4; v <= 8; v += 4) {
            x.level(g, v);
            x.wind(g, v);
            seen.add(x.stand(g));
        }
        x.wind(g, 5);
        seen.add(x.stand(g));
        for (int mark = 0; mark < 3; mark++) {
            seen.add(x.lift(g, mark));
        }
    }

    private static void seeGate(HarbourBoard x, List<Object> seen) {
        seen.add(Check.outcome(() -> x.move(false)));
        x.level(0, 1);
        x.level(1, 0);
        seen.add(Check.outcome(() -> x.move(true)));
    }
}
