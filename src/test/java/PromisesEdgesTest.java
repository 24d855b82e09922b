/** The edges that the promises name, but for wrong inputs: a test of its own for each sentence. */
public final class PromisesEdgesTest {
    private static final Check CHECK = new Check();

    private static final int NONE = HarbourBoard.NONE;
    private static final double ABOVE_FIVE = Math.nextUp(5.0);
    private static final double BELOW_FIVE = Math.nextDown(5.0);
    private static final float WIND_ABOVE_FIVE = Math.nextUp(5.0f);
    private static final float WIND_BELOW_FIVE = Math.nextDown(5.0f);

    public static void main(String[] args) {
        newStrips();
        newMarks();
        levelComes();
        levelOfFull();
        windComes();
        windOfFull();
        outComes();
        outOfFull();
        clearOfBoth();
        clearOfOut();
        clearOfEmptyAndFull();
        markSetBefore();
        galeSetBefore();
        liftOfEach();
        probeCounts();
        probeWindCounts();
        probeOutCounts();
        runFromOldest();
        runFromLatest();
        countOfStrip();
        holdsToItself();
        pickFirst();
        pickSecond();
        pickNone();
        pickItself();
        standEmpty();
        standOut();
        standBelowLow();
        standAboveHigh();
        standAtMark();
        standUnmarked();
        standOtherwise();
        standTen();
        standTwenty();
        standThirty();
        standNoMore();
        orderGreatestFirst();
        orderOutLast();
        orderOfEqual();
        orderOfOut();
        highestOfEdges();
        highestOfNone();
        calmestOfEdges();
        calmestOfNone();
        sameTwo();
        sameOne();
        sameNone();
        sameItself();
        moveCounts();
        moveLeavesAllElse();
        moveSoAlready();
        openNotAbove();
        openInGale();
        shutAboveLow();
        shutAtMostHigh();
        sizeOfEdges();
        CHECK.end("PromisesEdgesTest");
    }

    private static void newStrips() {
        CHECK.sentence("All strips are empty");
        HarbourBoard x = new HarbourBoard();
        for (int g = 0; g < 6; g++) {
            due("levels of gauge " + g, 0, x.size(g, 0));
            due("winds of gauge " + g, 0, x.size(g, 1));
            due("clear of gauge " + g, 0, x.clear(g));
        }
    }

    private static void newMarks() {
        CHECK.sentence("nothing is SET");
        HarbourBoard x = new HarbourBoard();
        for (int g = 0; g < 6; g++) {
            for (int mark = 0; mark < 3; mark++) {
                due("mark " + mark + " of gauge " + g, false, x.lift(g, mark));
            }
        }
        HarbourBoard used = new HarbourBoard();
        used.mark(0, 0, 1);
        used.level(0, 1);
        HarbourBoard other = new HarbourBoard();
        due("a mark that another object has", false, other.lift(0, 0));
        due("a level that another object has", 0, other.size(0, 0));
    }

    private static void levelComes() {
        CHECK.sentence("A LEVEL comes behind the others of gauge g: how many the strip has.");
        HarbourBoard x = new HarbourBoard();
        for (int i = 1; i <= 12; i++) {
            due("level " + i, i, x.level(5, 12 - i));
            due("it is the latest", 1, x.probe(12 - i));
            due("the older ones stay", i - 1, x.run(5, 0, 2, false));
        }
    }

    private static void levelOfFull() {
        CHECK.sentence("IllegalStateException, when the strip has 12.");
        HarbourBoard x = new HarbourBoard();
        fill(x, 0, 0, 11);
        due("level 12", 12, x.level(0, -1));
        CHECK.refused("level 13", Inputs.ISE, () -> x.level(0, 3));
        CHECK.refused("level 13 again", Inputs.ISE, () -> x.level(0, 3));
        due("the latest stays", 1, x.probe(-1));
        due("winds have room", 1, x.wind(0, 1));
        due("the next gauge has room", 1, x.level(1, 1));
        x.clear(0);
        due("level behind a clear", 1, x.level(0, 3));
    }

    private static void windComes() {
        CHECK.sentence("A WIND comes likewise.");
        HarbourBoard x = new HarbourBoard();
        for (int i = 1; i <= 12; i++) {
            due("wind " + i, i, x.wind(5, 12 - i));
            due("it is the latest", 1, x.probeWind(12 - i));
            due("the older ones stay", i - 1, x.run(5, 1, 2, false));
            due("levels don't come with it", 0, x.size(5, 0));
        }
    }

    private static void windOfFull() {
        CHECK.sentence("A WIND comes likewise.");
        HarbourBoard x = new HarbourBoard();
        fill(x, 5, 1, 11);
        due("wind 12", 12, x.wind(5, 100));
        CHECK.refused("wind 13", Inputs.ISE, () -> x.wind(5, 3));
        CHECK.refused("wind 13 again", Inputs.ISE, () -> x.wind(5, 3));
        due("the latest stays", 1, x.probeWind(100));
        due("levels have room", 1, x.level(5, 1));
        due("the gauge before has room", 1, x.wind(4, 1));
        x.clear(5);
        due("wind behind a clear", 1, x.wind(5, 3));
    }

    private static void outComes() {
        CHECK.sentence("OUT comes to a strip (of what) of gauge g likewise.");
        for (int what = 0; what < 2; what++) {
            HarbourBoard x = new HarbourBoard();
            for (int g = 0; g < 6; g++) {
                due("OUT to an empty strip", 1, x.out(g, what));
                due("a number behind OUT", 2, put(x, g, what, 5));
                due("it is a number", true, x.holds(g, g, what, 4));
                due("OUT behind a number", 3, x.out(g, what));
                due("it is OUT", false, x.holds(g, g, what, 4));
                due("the other strip has none", 0, x.size(g, 1 - what));
            }
        }
    }

    private static void outOfFull() {
        CHECK.sentence("IllegalStateException, when the strip has 12.");
        for (int what = 0; what < 2; what++) {
            int w = what;
            HarbourBoard x = new HarbourBoard();
            fill(x, 3, what, 11);
            due("OUT 12", 12, x.out(3, what));
            CHECK.refused("OUT 13", Inputs.ISE, () -> x.out(3, w));
            CHECK.refused("a number behind 12", Inputs.ISE, () -> put(x, 3, w, 1));
            due("the other strip has room", 1, x.out(3, 1 - what));
        }
    }

    private static void clearOfBoth() {
        CHECK.sentence("Both strips of gauge g are empty then");
        HarbourBoard x = new HarbourBoard();
        for (int g = 0; g < 6; g++) {
            fill(x, g, 0, 2);
            fill(x, g, 1, 3);
        }
        for (int mark = 0; mark < 2; mark++) {
            x.mark(3, mark, 5);
        }
        x.gale(3, 5);
        due("clear of gauge 3", 5, x.clear(3));
        for (int mark = 0; mark < 3; mark++) {
            due("mark " + mark + " stays", true, x.lift(3, mark));
        }
        for (int g = 0; g < 6; g++) {
            due("levels of gauge " + g, g == 3 ? 0 : 2, x.size(g, 0));
            due("winds of gauge " + g, g == 3 ? 0 : 3, x.size(g, 1));
        }
    }

    private static void clearOfOut() {
        CHECK.sentence("how many (OUT, too) were in them");
        HarbourBoard x = new HarbourBoard();
        x.out(2, 0);
        due("one level that is OUT", 1, x.clear(2));
        x.out(2, 1);
        due("one wind that is OUT", 1, x.clear(2));
        x.out(2, 0);
        x.out(2, 1);
        x.level(2, 1);
        due("OUT and numbers", 3, x.clear(2));
    }

    private static void clearOfEmptyAndFull() {
        CHECK.sentence("how many (OUT, too) were in them");
        HarbourBoard x = new HarbourBoard();
        for (int g = 0; g < 6; g++) {
            due("clear of empty strips", 0, x.clear(g));
            fill(x, g, 0, 12);
            due("clear of full levels", 12, x.clear(g));
            fill(x, g, 1, 12);
            due("clear of full winds", 12, x.clear(g));
            fill(x, g, 0, 12);
            fill(x, g, 1, 12);
            due("clear of full strips", 24, x.clear(g));
            due("clear of cleared strips", 0, x.clear(g));
        }
    }

    private static void markSetBefore() {
        CHECK.sentence("LOW (0) or HIGH (1) of gauge g is v: whether it was SET before.");
        HarbourBoard x = new HarbourBoard();
        for (int g = 0; g < 6; g++) {
            x.level(g, 5);
            due("LOW for the first time", false, x.mark(g, 0, ABOVE_FIVE));
            due("below LOW", 2, x.stand(g));
            due("LOW again", true, x.mark(g, 0, 5));
            due("at LOW", 4, x.stand(g));
            due("HIGH for the first time", false, x.mark(g, 1, BELOW_FIVE));
            due("above HIGH", 3, x.stand(g));
            due("HIGH again, the same", true, x.mark(g, 1, BELOW_FIVE));
            due("LOW is lifted", true, x.lift(g, 0));
            due("LOW after a lift", false, x.mark(g, 0, 5));
        }
    }

    private static void galeSetBefore() {
        CHECK.sentence("GALE of gauge g is v: whether it was SET before.");
        HarbourBoard x = new HarbourBoard();
        for (int g = 0; g < 6; g++) {
            x.wind(g, 5);
            due("GALE for the first time", false, x.gale(g, WIND_ABOVE_FIVE));
            due("below GALE", 10, x.stand(g));
            due("GALE again", true, x.gale(g, 5));
            due("at GALE", 20, x.stand(g));
            due("GALE again, the same", true, x.gale(g, 5));
            due("GALE is lifted", true, x.lift(g, 2));
            due("GALE after a lift", false, x.gale(g, 0));
        }
    }

    private static void liftOfEach() {
        CHECK.sentence("A mark (0 .. 2) of gauge g is OUT: whether it was SET.");
        for (int g = 0; g < 6; g++) {
            for (int mark = 0; mark < 3; mark++) {
                HarbourBoard x = marked();
                due("mark " + mark + " of gauge " + g, true, x.lift(g, mark));
                due("mark " + mark + " of gauge " + g + " again", false, x.lift(g, mark));
                for (int other = 0; other < 18; other++) {
                    if (other != 3 * g + mark) {
                        due("another mark stays", true, x.lift(other / 3, other % 3));
                    }
                }
            }
        }
    }

    private static void probeCounts() {
        CHECK.sentence("The PROBE of levels is v: how many gauges have a LATEST level that is equal to it.");
        HarbourBoard x = new HarbourBoard();
        for (int g = 0; g < 6; g++) {
            due("so many gauges", g, x.probe(5));
            x.level(g, g % 2 == 0 ? ABOVE_FIVE : BELOW_FIVE);
            due("nearly equal is not equal", g, x.probe(5));
            x.level(g, 5);
        }
        due("all gauges", 6, x.probe(5));
        for (int g = 5; g >= 0; g--) {
            x.out(g, 0);
            due("OUT is not equal", g, x.probe(5));
        }
        x.wind(0, 5);
        due("winds don't count", 0, x.probe(5));
    }

    private static void probeWindCounts() {
        CHECK.sentence("The PROBE of winds is v: how many gauges have a LATEST wind that is equal to it.");
        HarbourBoard x = new HarbourBoard();
        for (int g = 0; g < 6; g++) {
            due("so many gauges", g, x.probeWind(5));
            x.wind(g, g % 2 == 0 ? WIND_ABOVE_FIVE : WIND_BELOW_FIVE);
            due("nearly equal is not equal", g, x.probeWind(5));
            x.wind(g, 5);
        }
        due("all gauges", 6, x.probeWind(5));
        for (int g = 5; g >= 0; g--) {
            x.out(g, 1);
            due("OUT is not equal", g, x.probeWind(5));
        }
        x.level(0, 5);
        due("levels don't count", 0, x.probeWind(5));
    }

    private static void probeOutCounts() {
        CHECK.sentence("The PROBE of what is OUT: how many gauges have a LATEST one of it that is unlike it.");
        for (int what = 0; what < 2; what++) {
            HarbourBoard x = new HarbourBoard();
            due("all strips empty", 6, x.probeOut(what));
            for (int g = 0; g < 3; g++) {
                put(x, g, what, 5);
                due("numbers and empty strips", 6, x.probeOut(what));
            }
            for (int g = 2; g < 6; g++) {
                x.out(g, what);
                due("numbers, OUT and empty strips", 6, x.probeOut(what));
            }
            x.probe(5);
            x.probeWind(5);
            x.probeOut(what);
            x.clear(0);
            x.level(0, 5);
            x.wind(0, 5);
            due("the one is OUT", 0, x.count(0, what, 4, false));
            due("the other stays", 1, x.count(0, 1 - what, 4, false));
        }
    }

    private static void runFromOldest() {
        CHECK.sentence("one behind the other from the oldest on, hold the relation to the PROBE of what");
        for (int what = 0; what < 2; what++) {
            HarbourBoard x = new HarbourBoard();
            x.probe(5);
            x.probeWind(5);
            due("an empty strip", 0, x.run(4, what, 5, false));
            put(x, 4, what, 5);
            due("all of one", 1, x.run(4, what, 4, false));
            due("none of one", 0, x.run(4, what, 5, false));
            fillOn(x, 4, what, 12);
            due("all of a full strip", 12, x.run(4, what, 4, false));
            due("none of a full strip", 0, x.run(4, what, 2, false));
            x.clear(4);
            put(x, 4, what, 5);
            put(x, 4, what, 5);
            x.out(4, what);
            put(x, 4, what, 5);
            due("OUT ends it", 2, x.run(4, what, 4, false));
            due("OUT is unlike, but not the oldest", 0, x.run(4, what, 5, false));
            x.clear(4);
            x.out(4, what);
            put(x, 4, what, 6);
            put(x, 4, what, 5);
            due("OUT begins it", 2, x.run(4, what, 5, false));
            due("OUT holds nothing else", 0, x.run(4, what, 2, false));
        }
    }

    private static void runFromLatest() {
        CHECK.sentence("with back: one ahead of the other from the latest on, do not hold it");
        for (int what = 0; what < 2; what++) {
            HarbourBoard x = new HarbourBoard();
            x.probe(5);
            x.probeWind(5);
            due("an empty strip", 0, x.run(1, what, 4, true));
            put(x, 1, what, 5);
            due("all of one", 1, x.run(1, what, 5, true));
            due("none of one", 0, x.run(1, what, 4, true));
            fillOn(x, 1, what, 12);
            due("all of a full strip", 12, x.run(1, what, 2, true));
            due("none of a full strip", 0, x.run(1, what, 4, true));
            x.clear(1);
            put(x, 1, what, 6);
            put(x, 1, what, 5);
            x.out(1, what);
            put(x, 1, what, 6);
            due("OUT does not hold it", 2, x.run(1, what, 4, true));
            due("OUT is unlike, and so is the latest", 0, x.run(1, what, 5, true));
            due("OUT is not at most", 2, x.run(1, what, 1, true));
            put(x, 1, what, 5);
            due("OUT is unlike, and ends it", 1, x.run(1, what, 5, true));
        }
    }

    private static void countOfStrip() {
        CHECK.sentence("How many of a strip hold the relation to the PROBE of what; with not: do not.");
        for (int what = 0; what < 2; what++) {
            HarbourBoard x = new HarbourBoard();
            x.probe(5);
            x.probeWind(5);
            due("an empty strip", 0, x.count(5, what, 5, false));
            due("an empty strip, not", 0, x.count(5, what, 5, true));
            for (int i = 0; i < 12; i++) {
                if (i % 3 == 0) {
                    x.out(5, what);
                } else {
                    put(x, 5, what, i % 3 == 1 ? 5 : 6);
                }
            }
            int[] holding = {0, 4, 4, 8, 4, 8};
            for (int relation = 0; relation < 6; relation++) {
                due("relation " + relation, holding[relation], x.count(5, what, relation, false));
                due("relation " + relation + ", not", 12 - holding[relation], x.count(5, what, relation, true));
            }
            x.probeOut(what);
            due("all of a full strip", 12, x.count(5, what, 5, false));
            due("none of a full strip", 0, x.count(5, what, 5, true));
            due("none of a full strip", 0, x.count(5, what, 4, false));
            due("all of a full strip, not", 12, x.count(5, what, 4, true));
        }
    }

    private static void holdsToItself() {
        CHECK.sentence("Whether the LATEST (of what) of gauge g holds the relation to that of gauge h.");
        HarbourBoard x = new HarbourBoard();
        x.level(5, 5);
        x.out(5, 1);
        for (int relation = 0; relation < 6; relation++) {
            boolean usual = relation == 1 || relation == 3 || relation == 4;
            due("a number and itself, " + relation, usual, x.holds(5, 5, 0, relation));
            due("OUT and itself, " + relation, relation == 5, x.holds(5, 5, 1, relation));
            due("an empty strip and itself, " + relation, relation == 5, x.holds(4, 4, 0, relation));
        }
    }

    private static void pickFirst() {
        CHECK.sentence("Of two gauges g, if its LATEST (of what) holds the relation to that of h");
        HarbourBoard x = fivesAndSixes();
        for (int what = 0; what < 2; what++) {
            due("5 below 6", 0, x.pick(0, 1, what, 0));
            due("6 above 5", 1, x.pick(1, 0, what, 2));
            due("both are at most, g goes first", 0, x.pick(0, 2, what, 1));
            due("both are at most, g goes first", 2, x.pick(2, 0, what, 1));
            due("both are unlike, g goes first", 1, x.pick(1, 0, what, 5));
            due("both are OUT, g goes first", 4, x.pick(4, 3, what, 5));
        }
    }

    private static void pickSecond() {
        CHECK.sentence("otherwise h, if its own holds it to that of g");
        HarbourBoard x = fivesAndSixes();
        for (int what = 0; what < 2; what++) {
            due("5 below 6", 0, x.pick(1, 0, what, 0));
            due("5 at most 6", 0, x.pick(1, 0, what, 1));
            due("6 above 5", 1, x.pick(0, 1, what, 2));
            due("6 at least 5", 1, x.pick(0, 1, what, 3));
        }
    }

    private static void pickNone() {
        CHECK.sentence("otherwise NONE");
        HarbourBoard x = fivesAndSixes();
        for (int what = 0; what < 2; what++) {
            due("equal ones, below", NONE, x.pick(0, 2, what, 0));
            due("equal ones, above", NONE, x.pick(0, 2, what, 2));
            due("equal ones, unlike", NONE, x.pick(0, 2, what, 5));
            due("unlike ones, equal", NONE, x.pick(0, 1, what, 4));
            for (int relation = 0; relation < 5; relation++) {
                due("a number and OUT", NONE, x.pick(0, 3, what, relation));
                due("OUT and a number", NONE, x.pick(3, 0, what, relation));
                due("OUT and an empty strip", NONE, x.pick(3, 5, what, relation));
                due("two of OUT", NONE, x.pick(3, 4, what, relation));
            }
        }
    }

    private static void pickItself() {
        CHECK.sentence("Of two gauges g, if its LATEST (of what) holds the relation to that of h");
        HarbourBoard x = fivesAndSixes();
        for (int what = 0; what < 2; what++) {
            for (int relation = 0; relation < 6; relation++) {
                boolean usual = relation == 1 || relation == 3 || relation == 4;
                due("a number and itself, " + relation, usual ? 2 : NONE, x.pick(2, 2, what, relation));
                due("OUT and itself, " + relation, relation == 5 ? 4 : NONE, x.pick(4, 4, what, relation));
                due("an empty strip and itself, " + relation, relation == 5 ? 5 : NONE, x.pick(5, 5, what, relation));
            }
        }
    }

    private static void standEmpty() {
        CHECK.sentence("0 its strip of LEVELS is empty");
        for (int g = 0; g < 6; g++) {
            HarbourBoard x = new HarbourBoard();
            due("a new gauge", 0, x.stand(g));
            x.mark(g, 0, 0);
            x.mark(g, 1, 0);
            due("marks at 0", 0, x.stand(g));
            x.wind(g, 0);
            due("winds don't count", 0, x.stand(g));
            x.level(g, 0);
            x.clear(g);
            due("a cleared strip", 0, x.stand(g));
        }
    }

    private static void standOut() {
        CHECK.sentence("1 its LATEST level is OUT");
        HarbourBoard x = new HarbourBoard();
        x.out(3, 0);
        due("the only one", 1, x.stand(3));
        x.mark(3, 0, 0);
        x.mark(3, 1, 0);
        due("with marks at 0", 1, x.stand(3));
        x.level(3, 0);
        due("not the latest", 4, x.stand(3));
        x.out(3, 0);
        due("the latest", 1, x.stand(3));
        due("the next gauge", 0, x.stand(4));
    }

    private static void standBelowLow() {
        CHECK.sentence("2 that is below LOW");
        HarbourBoard x = new HarbourBoard();
        x.level(0, 5);
        x.mark(0, 0, ABOVE_FIVE);
        due("below LOW by little", 2, x.stand(0));
        x.mark(0, 1, BELOW_FIVE);
        due("below LOW and above HIGH", 2, x.stand(0));
        x.mark(0, 1, 5);
        due("below LOW and at HIGH", 2, x.stand(0));
        x.mark(0, 1, 1000);
        due("below LOW and below HIGH", 2, x.stand(0));
        x.level(0, -1000);
        x.mark(0, 0, 1000);
        due("below LOW by much", 2, x.stand(0));
    }

    private static void standAboveHigh() {
        CHECK.sentence("3 above HIGH");
        HarbourBoard x = new HarbourBoard();
        x.level(0, 5);
        x.mark(0, 1, BELOW_FIVE);
        due("above HIGH by little, no LOW", 3, x.stand(0));
        x.mark(0, 0, 5);
        due("above HIGH and at LOW", 3, x.stand(0));
        x.mark(0, 0, -1000);
        due("above HIGH and above LOW", 3, x.stand(0));
        x.level(0, 1000);
        x.mark(0, 1, -1000);
        due("above HIGH by much", 3, x.stand(0));
    }

    private static void standAtMark() {
        CHECK.sentence("4 equal to one of these");
        HarbourBoard x = new HarbourBoard();
        x.level(0, 5);
        x.mark(0, 0, 5);
        due("at LOW, no HIGH", 4, x.stand(0));
        x.mark(0, 1, 6);
        due("at LOW, below HIGH", 4, x.stand(0));
        x.mark(0, 1, 5);
        due("at both", 4, x.stand(0));
        x.mark(0, 0, 4);
        due("at HIGH, above LOW", 4, x.stand(0));
        x.lift(0, 0);
        due("at HIGH, no LOW", 4, x.stand(0));
        x.level(0, -0.0);
        x.mark(0, 1, 0.0);
        due("at HIGH, two zeros", 4, x.stand(0));
    }

    private static void standUnmarked() {
        CHECK.sentence("5 neither of these is SET");
        HarbourBoard x = new HarbourBoard();
        for (double v : Inputs.LEVELS_AT_THE_EDGE) {
            x.level(0, v);
            due("level " + v + ", no marks", 5, x.stand(0));
        }
        x.mark(0, 0, 1000);
        x.mark(0, 1, 1000);
        x.lift(0, 0);
        x.lift(0, 1);
        due("lifted marks", 5, x.stand(0));
        x.mark(1, 0, 1000);
        x.mark(1, 1, 1000);
        due("another gauge's marks", 5, x.stand(0));
    }

    private static void standOtherwise() {
        CHECK.sentence("6 otherwise");
        HarbourBoard x = new HarbourBoard();
        x.level(0, 5);
        x.mark(0, 0, BELOW_FIVE);
        due("above LOW by little, no HIGH", 6, x.stand(0));
        x.mark(0, 1, ABOVE_FIVE);
        due("between both", 6, x.stand(0));
        x.lift(0, 0);
        due("below HIGH by little, no LOW", 6, x.stand(0));
    }

    private static void standTen() {
        CHECK.sentence("And 10 more, when its LATEST wind is below GALE");
        HarbourBoard x = new HarbourBoard();
        x.gale(5, 5);
        x.wind(5, WIND_BELOW_FIVE);
        standsWith(x, 10);
        x.gale(5, 200);
        x.wind(5, 0);
        standsWith(x, 10);
    }

    private static void standTwenty() {
        CHECK.sentence("20, when it is at least GALE");
        HarbourBoard x = new HarbourBoard();
        x.gale(5, 5);
        x.wind(5, 5);
        standsWith(x, 20);
        x.wind(5, WIND_ABOVE_FIVE);
        standsWith(x, 20);
        x.gale(5, 0);
        x.wind(5, 0);
        standsWith(x, 20);
        x.wind(5, -0.0f);
        standsWith(x, 20);
    }

    private static void standThirty() {
        CHECK.sentence("30, when GALE is SET and the LATEST wind is OUT");
        HarbourBoard x = new HarbourBoard();
        x.gale(5, 0);
        standsWith(x, 30);
        x.wind(5, 0);
        x.out(5, 1);
        standsWith(x, 30);
        x.clear(5);
        standsWith(x, 30);
    }

    private static void standNoMore() {
        CHECK.sentence("30, when GALE is SET and the LATEST wind is OUT");
        HarbourBoard x = new HarbourBoard();
        standsWith(x, 0);
        x.gale(4, 0);
        x.wind(5, 200);
        standsWith(x, 0);
        x.out(5, 1);
        standsWith(x, 0);
        x.gale(5, 1);
        x.lift(5, 2);
        standsWith(x, 0);
    }

    /** Gauge 5 stands with so much more in each of 1 .. 6, in what order ever its levels came. */
    private static void standsWith(HarbourBoard x, int more) {
        if (x.size(5, 0) == 0) {
            due("no levels", more, x.stand(5));
        }
        x.out(5, 0);
        due("level OUT", more + 1, x.stand(5));
        x.level(5, 5);
        x.mark(5, 0, 6);
        due("below LOW", more + 2, x.stand(5));
        x.mark(5, 0, 5);
        x.mark(5, 1, 4);
        due("above HIGH", more + 3, x.stand(5));
        x.mark(5, 1, 6);
        due("at LOW", more + 4, x.stand(5));
        x.mark(5, 0, 4);
        due("otherwise", more + 6, x.stand(5));
        x.lift(5, 0);
        x.lift(5, 1);
        due("no marks", more + 5, x.stand(5));
    }

    private static void orderGreatestFirst() {
        CHECK.sentence("the greater one first");
        HarbourBoard x = new HarbourBoard();
        double[] levels = {5, -1000, 1000, ABOVE_FIVE, -5, BELOW_FIVE};
        for (int g = 0; g < 6; g++) {
            x.level(g, -levels[g]);
            x.level(g, levels[g]);
        }
        orderAll(x, 2, 3, 0, 5, 4, 1);
    }

    private static void orderOutLast() {
        CHECK.sentence("OUT behind all numbers");
        HarbourBoard x = new HarbourBoard();
        x.level(5, -1000);
        orderAll(x, 5, 0, 1, 2, 3, 4);
        x.level(0, 1000);
        x.out(0, 0);
        x.level(4, -1000);
        orderAll(x, 4, 5, 0, 1, 2, 3);
        x.level(3, -1000);
        x.level(2, -1000);
        x.level(1, -1000);
        orderAll(x, 1, 2, 3, 4, 5, 0);
    }

    private static void orderOfEqual() {
        CHECK.sentence("of two that are equal, or both OUT, the lower gauge first");
        HarbourBoard x = new HarbourBoard();
        for (int g = 5; g >= 0; g--) {
            x.level(g, g % 2 == 0 ? 0.0 : -0.0);
        }
        orderAll(x, 0, 1, 2, 3, 4, 5);
        x.level(5, 1);
        x.level(2, 1);
        orderAll(x, 2, 5, 0, 1, 3, 4);
    }

    private static void orderOfOut() {
        CHECK.sentence("of two that are equal, or both OUT, the lower gauge first");
        HarbourBoard x = new HarbourBoard();
        orderAll(x, 0, 1, 2, 3, 4, 5);
        x.out(3, 0);
        x.level(1, 9);
        x.out(1, 0);
        orderAll(x, 0, 1, 2, 3, 4, 5);
        x.level(4, 0);
        orderAll(x, 4, 0, 1, 2, 3, 5);
    }

    private static void highestOfEdges() {
        CHECK.sentence("The greatest number among the LEVELS of gauge g.");
        HarbourBoard x = new HarbourBoard();
        x.level(4, -1000);
        due("the least level alone", -1000.0, x.highest(4));
        x.out(4, 0);
        due("and OUT", -1000.0, x.highest(4));
        x.level(4, Math.nextUp(-1000.0));
        due("greater by little", Math.nextUp(-1000.0), x.highest(4));
        for (int i = 4; i <= 11; i++) {
            x.level(4, -i);
        }
        due("not the latest", -4.0, x.highest(4));
        x.level(4, 1000);
        due("the twelfth", 1000.0, x.highest(4));
        x.clear(4);
        x.level(4, 1000);
        fillOn(x, 4, 0, 12);
        due("the first of twelve", 1000.0, x.highest(4));
        x.clear(4);
        x.level(4, -1);
        due("none of before", -1.0, x.highest(4));
        x.level(5, 7);
        x.level(3, 7);
        x.wind(4, 7);
        due("none of others", -1.0, x.highest(4));
    }

    private static void highestOfNone() {
        CHECK.sentence("NoSuchElementException, when there is no number.");
        HarbourBoard x = new HarbourBoard();
        for (int g = 0; g < 6; g++) {
            int gauge = g;
            x.wind(g, 1);
            CHECK.refused("an empty strip", Inputs.NSE, () -> x.highest(gauge));
            for (int i = 1; i <= 12; i++) {
                x.out(g, 0);
                CHECK.refused(i + " of OUT", Inputs.NSE, () -> x.highest(gauge));
            }
            x.clear(g);
            x.level(g, 1);
            x.clear(g);
            CHECK.refused("a cleared strip", Inputs.NSE, () -> x.highest(gauge));
            x.out(g, 0);
            CHECK.refused("OUT where a number was", Inputs.NSE, () -> x.highest(gauge));
        }
    }

    private static void calmestOfEdges() {
        CHECK.sentence("The least number among the WINDS of gauge g.");
        HarbourBoard x = new HarbourBoard();
        x.wind(4, 200);
        due("the greatest wind alone", 200.0f, x.calmest(4));
        x.out(4, 1);
        due("and OUT", 200.0f, x.calmest(4));
        x.wind(4, Math.nextDown(200.0f));
        due("less by little", Math.nextDown(200.0f), x.calmest(4));
        for (int i = 4; i <= 11; i++) {
            x.wind(4, i);
        }
        due("not the latest", 4.0f, x.calmest(4));
        x.wind(4, Float.MIN_VALUE);
        due("the twelfth", Float.MIN_VALUE, x.calmest(4));
        x.clear(4);
        x.wind(4, 0);
        fillOn(x, 4, 1, 12);
        due("the first of twelve", 0.0f, x.calmest(4));
        x.clear(4);
        x.wind(4, 100);
        due("none of before", 100.0f, x.calmest(4));
        x.wind(5, 7);
        x.wind(3, 7);
        x.level(4, 7);
        due("none of others", 100.0f, x.calmest(4));
    }

    private static void calmestOfNone() {
        CHECK.sentence("The least number among the WINDS of gauge g. Throws likewise.");
        HarbourBoard x = new HarbourBoard();
        for (int g = 0; g < 6; g++) {
            int gauge = g;
            x.level(g, 1);
            CHECK.refused("an empty strip", Inputs.NSE, () -> x.calmest(gauge));
            for (int i = 1; i <= 12; i++) {
                x.out(g, 1);
                CHECK.refused(i + " of OUT", Inputs.NSE, () -> x.calmest(gauge));
            }
            x.clear(g);
            x.wind(g, 1);
            x.clear(g);
            CHECK.refused("a cleared strip", Inputs.NSE, () -> x.calmest(gauge));
            x.out(g, 1);
            CHECK.refused("OUT where a number was", Inputs.NSE, () -> x.calmest(gauge));
        }
    }

    private static void sameTwo() {
        CHECK.sentence("2, when their strips of LEVELS have as many, and each is equal to the one at its place");
        HarbourBoard x = new HarbourBoard();
        sameBoth("two empty strips", 2, x, 4, 5);
        for (int i = 1; i <= 12; i++) {
            x.level(4, i % 2 == 0 ? 0.0 : i);
            x.level(5, i % 2 == 0 ? -0.0 : i);
            sameBoth(i + " equal ones", 2, x, 4, 5);
        }
        x.wind(4, 1);
        sameBoth("winds don't count", 2, x, 4, 5);
    }

    private static void sameOne() {
        CHECK.sentence("1, when they have as many, and each two are equal, or both OUT");
        for (int at = 1; at <= 12; at++) {
            HarbourBoard x = new HarbourBoard();
            for (int i = 1; i <= 12; i++) {
                for (int g = 4; g < 6; g++) {
                    if (i == at) {
                        x.out(g, 0);
                    } else {
                        x.level(g, i);
                    }
                }
                sameBoth("OUT at " + at + " of " + i, i < at ? 2 : 1, x, 4, 5);
            }
        }
        HarbourBoard x = new HarbourBoard();
        for (int i = 1; i <= 12; i++) {
            x.out(0, 0);
            x.out(1, 0);
            sameBoth(i + " times OUT", 1, x, 0, 1);
        }
    }

    private static void sameNone() {
        CHECK.sentence("otherwise 0");
        for (int at = 1; at <= 12; at++) {
            HarbourBoard x = new HarbourBoard();
            for (int i = 1; i <= 12; i++) {
                x.level(2, i);
                sameBoth("one more", 0, x, 2, 3);
                if (i == at && i % 2 == 0) {
                    x.out(3, 0);
                } else {
                    x.level(3, i == at ? Math.nextUp((double) i) : i);
                }
                sameBoth("unlike at " + at + " of " + i, i < at ? 2 : 0, x, 2, 3);
            }
        }
        HarbourBoard x = new HarbourBoard();
        x.out(0, 0);
        sameBoth("OUT and an empty strip", 0, x, 0, 1);
        x.level(1, 0);
        sameBoth("OUT and 0", 0, x, 0, 1);
        x.out(0, 0);
        x.out(1, 0);
        sameBoth("OUT and 0, then both OUT", 0, x, 0, 1);
    }

    private static void sameItself() {
        CHECK.sentence("Of two gauges (also one and itself)");
        HarbourBoard x = new HarbourBoard();
        for (int g = 0; g < 6; g++) {
            due("an empty strip and itself", 2, x.same(g, g));
            x.level(g, g);
            due("a number and itself", 2, x.same(g, g));
            x.out(g, 0);
            due("OUT is not equal to itself", 1, x.same(g, g));
            x.level(g, g);
            due("nor behind a number", 1, x.same(g, g));
            x.clear(g);
            due("a cleared strip and itself", 2, x.same(g, g));
        }
    }

    private static void moveCounts() {
        CHECK.sentence("The gate opens (open) or shuts: how often it did either so far.");
        HarbourBoard x = gate(6, 5);
        due("opens", 1, x.move(true));
        CHECK.refused("is open", Inputs.ISE, () -> x.move(true));
        due("shuts", 2, x.move(false));
        CHECK.refused("is shut", Inputs.ISE, () -> x.move(false));
        x.level(0, 4);
        CHECK.refused("may not open", Inputs.UOE, () -> x.move(true));
        x.level(0, 6);
        x.gale(1, 0);
        CHECK.refused("may not open in a gale", Inputs.AE, () -> x.move(true));
        x.lift(1, 2);
        due("what was refused does not count", 3, x.move(true));
        x.clear(0);
        x.clear(1);
        due("shuts, with all cleared", 4, x.move(false));
    }

    private static void moveLeavesAllElse() {
        CHECK.sentence("The gate opens (open) or shuts: how often it did either so far.");
        for (boolean alsoShut : new boolean[] {false, true}) {
            HarbourBoard x = marked();
            x.mark(0, 1, -1000);
            x.level(0, 0);
            x.level(1, -1);
            x.wind(1, 0);
            x.gale(1, 1);
            x.probe(0);
            x.probeWind(0);
            x.move(true);
            if (alsoShut) {
                x.move(false);
            }
            for (int i = 0; i < 18; i++) {
                due("mark " + i % 3 + " of gauge " + i / 3 + " stays", true, x.lift(i / 3, i % 3));
            }
            due("the probe of levels stays, and INSIDE's level", 1, x.count(0, 0, 4, false));
            due("the probe of levels stays, and OUTSIDE's level", 1, x.count(1, 0, 0, false));
            due("the probe of winds stays, and OUTSIDE's wind", 1, x.count(1, 1, 4, false));
        }
    }

    private static void moveSoAlready() {
        CHECK.sentence("IllegalStateException, when it is so already.");
        HarbourBoard x = gate(6, 5);
        CHECK.refused("shut at first", Inputs.ISE, () -> x.move(false));
        x.move(true);
        CHECK.refused("open", Inputs.ISE, () -> x.move(true));
        x.move(false);
        CHECK.refused("shut again", Inputs.ISE, () -> x.move(false));
    }

    private static void openNotAbove() {
        CHECK.sentence("To open: UnsupportedOperationException, when INSIDE's LATEST level is not above OUTSIDE's");
        CHECK.refused("equal", Inputs.UOE, () -> gate(5, 5).move(true));
        CHECK.refused("two zeros", Inputs.UOE, () -> gate(0.0, -0.0).move(true));
        CHECK.refused("below by little", Inputs.UOE, () -> gate(5, ABOVE_FIVE).move(true));
        due("above by little", 1, gate(ABOVE_FIVE, 5).move(true));
        due("above by all", 1, gate(1000, -1000).move(true));
        HarbourBoard x = new HarbourBoard();
        CHECK.refused("both empty", Inputs.UOE, () -> x.move(true));
        x.level(0, 1000);
        CHECK.refused("OUTSIDE empty", Inputs.UOE, () -> x.move(true));
        x.out(1, 0);
        CHECK.refused("OUTSIDE OUT", Inputs.UOE, () -> x.move(true));
        x.out(0, 0);
        CHECK.refused("both OUT", Inputs.UOE, () -> x.move(true));
        x.level(1, -1000);
        CHECK.refused("INSIDE OUT", Inputs.UOE, () -> x.move(true));
        x.clear(0);
        CHECK.refused("INSIDE empty", Inputs.UOE, () -> x.move(true));
        x.level(0, -999);
        due("above at last", 1, x.move(true));
    }

    private static void openInGale() {
        CHECK.sentence("ArithmeticException, when OUTSIDE's GALE is SET, and its LATEST wind is not below that");
        HarbourBoard x = gate(6, 5);
        x.gale(1, 5);
        CHECK.refused("no wind came", Inputs.AE, () -> x.move(true));
        x.out(1, 1);
        CHECK.refused("the wind is OUT", Inputs.AE, () -> x.move(true));
        x.wind(1, 5);
        CHECK.refused("the wind is at GALE", Inputs.AE, () -> x.move(true));
        x.wind(1, WIND_ABOVE_FIVE);
        CHECK.refused("the wind is above by little", Inputs.AE, () -> x.move(true));
        x.wind(1, 0);
        x.gale(1, 0);
        CHECK.refused("no wind is below 0", Inputs.AE, () -> x.move(true));
        x.gale(1, 5);
        x.wind(1, WIND_BELOW_FIVE);
        x.gale(0, 0);
        x.wind(0, 200);
        due("the wind is below by little, INSIDE has a gale", 1, x.move(true));

        HarbourBoard unset = gate(6, 5);
        unset.gale(1, 0);
        unset.lift(1, 2);
        due("GALE is not SET, no wind came", 1, unset.move(true));
        unset.wind(1, 200);
        unset.move(false);
        due("GALE is not SET, much wind came", 3, unset.move(true));
        unset.gale(1, 0);
        due("a gale does not keep it from shutting", 4, unset.move(false));
    }

    private static void shutAboveLow() {
        CHECK.sentence("To shut: UnsupportedOperationException, when INSIDE's LATEST level is above its LOW");
        HarbourBoard x = opened(5, 4);
        x.mark(0, 0, BELOW_FIVE);
        CHECK.refused("above by little", Inputs.UOE, () -> x.move(false));
        x.mark(0, 0, -1000);
        CHECK.refused("above by much", Inputs.UOE, () -> x.move(false));
        x.mark(0, 0, 5);
        due("at LOW", 2, x.move(false));
        x.move(true);
        x.mark(0, 0, ABOVE_FIVE);
        due("below LOW by little", 4, x.move(false));
        x.move(true);
        x.mark(0, 0, -1000);
        x.lift(0, 0);
        x.mark(1, 0, -1000);
        due("LOW is not SET, OUTSIDE's is", 6, x.move(false));
        x.move(true);
        x.mark(0, 0, -1000);
        x.out(0, 0);
        due("INSIDE OUT", 8, x.move(false));

        HarbourBoard emptied = opened(5, 4);
        emptied.mark(0, 0, -1000);
        emptied.clear(0);
        due("INSIDE empty", 2, emptied.move(false));
    }

    private static void shutAtMostHigh() {
        CHECK.sentence("ArithmeticException, when INSIDE's HIGH is SET, OUTSIDE's LATEST level is a number,"
            + " and this is at most that.");
        HarbourBoard x = opened(6, 5);
        x.mark(0, 1, 5);
        CHECK.refused("OUTSIDE is at HIGH", Inputs.AE, () -> x.move(false));
        x.mark(0, 1, ABOVE_FIVE);
        CHECK.refused("OUTSIDE is below HIGH by little", Inputs.AE, () -> x.move(false));
        x.mark(0, 1, 1000);
        CHECK.refused("OUTSIDE is below HIGH by much", Inputs.AE, () -> x.move(false));
        x.mark(0, 1, BELOW_FIVE);
        due("OUTSIDE is above HIGH by little", 2, x.move(false));
        x.move(true);
        x.mark(0, 1, 1000);
        x.lift(0, 1);
        x.mark(1, 1, 1000);
        due("HIGH is not SET, OUTSIDE's is", 4, x.move(false));
        x.move(true);
        x.mark(0, 1, 1000);
        x.out(1, 0);
        due("OUTSIDE OUT", 6, x.move(false));

        HarbourBoard emptied = opened(6, 5);
        emptied.mark(0, 1, 1000);
        emptied.clear(1);
        due("OUTSIDE empty", 2, emptied.move(false));

        HarbourBoard lower = opened(6, 5);
        lower.mark(0, 1, 3);
        lower.level(0, 2);
        due("INSIDE is below HIGH, OUTSIDE above", 2, lower.move(false));
    }

    private static void sizeOfEdges() {
        CHECK.sentence("How many a strip (of what) of gauge g has.");
        for (int g = 0; g < 6; g++) {
            for (int what = 0; what < 2; what++) {
                int w = what;
                int gauge = g;
                HarbourBoard x = new HarbourBoard();
                due("an empty strip", 0, x.size(g, what));
                for (int i = 1; i <= 12; i++) {
                    if (i % 2 == 0) {
                        x.out(g, what);
                    } else {
                        put(x, g, what, i);
                    }
                    due("a strip of " + i, i, x.size(g, what));
                }
                CHECK.refused("one more", Inputs.ISE, () -> x.out(gauge, w));
                due("a full strip", 12, x.size(g, what));
                due("the other strip", 0, x.size(g, 1 - what));
                x.clear(g);
                due("a cleared strip", 0, x.size(g, what));
            }
        }
    }

    private static int put(HarbourBoard x, int g, int what, int v) {
        return what == 0 ? x.level(g, v) : x.wind(g, v);
    }

    private static void fill(HarbourBoard x, int g, int what, int many) {
        for (int i = 0; i < many; i++) {
            put(x, g, what, 5);
        }
    }

    /** Fives behind what the strip has, until it has so many. */
    private static void fillOn(HarbourBoard x, int g, int what, int many) {
        fill(x, g, what, many - x.size(g, what));
    }

    private static HarbourBoard marked() {
        HarbourBoard x = new HarbourBoard();
        for (int g = 0; g < 6; g++) {
            x.mark(g, 0, 0);
            x.mark(g, 1, 0);
            x.gale(g, 0);
        }
        return x;
    }

    /** Of both kinds: gauges 0 and 2 have 5, gauge 1 has 6, gauges 3 and 4 have OUT, gauge 5 has none. */
    private static HarbourBoard fivesAndSixes() {
        HarbourBoard x = new HarbourBoard();
        for (int what = 0; what < 2; what++) {
            put(x, 0, what, 5);
            put(x, 1, what, 6);
            put(x, 2, what, 5);
            x.out(3, what);
            x.out(4, what);
        }
        return x;
    }

    private static HarbourBoard gate(double inside, double outside) {
        HarbourBoard x = new HarbourBoard();
        x.level(0, inside);
        x.level(1, outside);
        return x;
    }

    private static HarbourBoard opened(double inside, double outside) {
        HarbourBoard x = gate(inside, outside);
        x.move(true);
        return x;
    }

    private static void orderAll(HarbourBoard x, int... gauges) {
        for (int k = 0; k < 6; k++) {
            due("order(" + k + ")", gauges[k], x.order(k));
        }
    }

    private static void sameBoth(String what, int want, HarbourBoard x, int g, int h) {
        due(what, want, x.same(g, h));
        due(what + ", turned", want, x.same(h, g));
    }

    private static void due(String call, Object want, Object got) {
        CHECK.due(call, want, got);
    }
}
