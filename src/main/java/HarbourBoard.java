import java.util.NoSuchElementException;

/** A harbour's board of gauges; what is OUT compares with nothing. */
public final class HarbourBoard {
    public static final int NONE = -1;

    private static final int GAUGES = 6;
    private static final int INSIDE = 0;
    private static final int OUTSIDE = 1;

    private static final int WHATS = 2;
    private static final int LEVELS = 0;
    private static final int WINDS = 1;

    private static final int MARKS = 3;
    private static final int LOW = 0;
    private static final int HIGH = 1;
    private static final int GALE = 2;

    private static final int RELATIONS = 6;
    private static final int BELOW = 0;
    private static final int AT_MOST = 1;
    private static final int ABOVE = 2;
    private static final int AT_LEAST = 3;
    private static final int EQUAL = 4;
    private static final int UNLIKE = 5;

    private static final int LEAST_LEVEL = -1000;
    private static final int GREATEST_LEVEL = 1000;
    private static final int LEAST_WIND = 0;
    private static final int GREATEST_WIND = 200;

    private static final int STRIPS = GAUGES * WHATS;
    private static final int STRIP_ROOM = 12;

    // Strips, marks and probes share one row of places, so that one comparison serves them all.
    private static final int FIRST_MARK = STRIPS * STRIP_ROOM;
    private static final int FIRST_PROBE = FIRST_MARK + GAUGES * MARKS;
    // The LATEST of an empty strip; no number is ever put here.
    private static final int ALWAYS_OUT = FIRST_PROBE + WHATS;
    private static final int PLACES = ALWAYS_OUT + 1;

    // OUT has a row of its own, because no number can stand for it: NaN is ruled out.
    private final boolean[] isNumber;
    // Winds are held here as well: a float goes to a double and back unchanged.
    private final double[] numbers;
    private final int[] lengths;
    private boolean gateOpen;
    private int moves;

    public HarbourBoard() {
        isNumber = new boolean[PLACES];
        numbers = new double[PLACES];
        lengths = new int[STRIPS];
        gateOpen = false;
        moves = 0;
    }

    public int level(int g, double v) throws IllegalArgumentException, IllegalStateException {
        needGauge(g);
        needLevel(v);
        return appendNumber(stripOf(g, LEVELS), v);
    }

    public int wind(int g, float v) throws IllegalArgumentException, IllegalStateException {
        needGauge(g);
        needWind(v);
        return appendNumber(stripOf(g, WINDS), v);
    }

    public int out(int g, int what) throws IllegalArgumentException, IllegalStateException {
        needGauge(g);
        needWhat(what);
        return appendOut(stripOf(g, what));
    }

    public int clear(int g) throws IllegalArgumentException {
        needGauge(g);
        return emptyStrip(stripOf(g, LEVELS)) + emptyStrip(stripOf(g, WINDS));
    }

    public boolean mark(int g, int mark, double v) throws IllegalArgumentException {
        needGauge(g);
        if (mark != LOW && mark != HIGH) {
            throw new IllegalArgumentException("no such mark of levels");
        }
        needLevel(v);
        return putNumber(markPlace(g, mark), v);
    }

    public boolean gale(int g, float v) throws IllegalArgumentException {
        needGauge(g);
        needWind(v);
        return putNumber(markPlace(g, GALE), v);
    }

    public boolean lift(int g, int mark) throws IllegalArgumentException {
        needGauge(g);
        if (mark < 0 || mark >= MARKS) {
            throw new IllegalArgumentException("no such mark");
        }
        return putOut(markPlace(g, mark));
    }

    public int probe(double v) throws IllegalArgumentException {
        needLevel(v);
        putNumber(probePlace(LEVELS), v);
        return gaugesRelatedToProbe(LEVELS, EQUAL);
    }

    public int probeWind(float v) throws IllegalArgumentException {
        needWind(v);
        putNumber(probePlace(WINDS), v);
        return gaugesRelatedToProbe(WINDS, EQUAL);
    }

    public int probeOut(int what) throws IllegalArgumentException {
        needWhat(what);
        putOut(probePlace(what));
        return gaugesRelatedToProbe(what, UNLIKE);
    }

    public int run(int g, int what, int relation, boolean back) throws IllegalArgumentException {
        needGauge(g);
        needWhat(what);
        needRelation(relation);
        int strip = stripOf(g, what);
        int probe = probePlace(what);
        return back ? runBack(strip, probe, relation) : runAhead(strip, probe, relation);
    }

    public int count(int g, int what, int relation, boolean not) throws IllegalArgumentException {
        needGauge(g);
        needWhat(what);
        needRelation(relation);
        int strip = stripOf(g, what);
        int holding = 0;
        for (int i = 0; i < lengths[strip]; i++) {
            if (isRelated(stripPlace(strip, i), probePlace(what), relation)) {
                holding++;
            }
        }
        return not ? lengths[strip] - holding : holding;
    }

    public boolean holds(int g, int h, int what, int relation) throws IllegalArgumentException {
        needGauge(g);
        needGauge(h);
        needWhat(what);
        needRelation(relation);
        return isRelated(latestPlace(g, what), latestPlace(h, what), relation);
    }

    public int pick(int g, int h, int what, int relation) throws IllegalArgumentException {
        needGauge(g);
        needGauge(h);
        needWhat(what);
        needRelation(relation);
        int latestOfG = latestPlace(g, what);
        int latestOfH = latestPlace(h, what);
        if (isRelated(latestOfG, latestOfH, relation)) {
            return g;
        }
        return isRelated(latestOfH, latestOfG, relation) ? h : NONE;
    }

    public int stand(int g) throws IllegalArgumentException {
        needGauge(g);
        return standOfLevel(g) + standOfWind(g);
    }

    public int order(int k) throws IllegalArgumentException {
        if (k < 0 || k >= GAUGES) {
            throw new IllegalArgumentException("no such place in the order");
        }
        int found = NONE;
        for (int g = 0; g < GAUGES; g++) {
            if (gaugesAheadOf(g) == k) {
                found = g;
            }
        }
        return found;
    }

    public double highest(int g) throws IllegalArgumentException, NoSuchElementException {
        needGauge(g);
        return numbers[extremePlace(stripOf(g, LEVELS), ABOVE)];
    }

    public float calmest(int g) throws IllegalArgumentException, NoSuchElementException {
        needGauge(g);
        return (float) numbers[extremePlace(stripOf(g, WINDS), BELOW)];
    }

    public int same(int g, int h) throws IllegalArgumentException {
        needGauge(g);
        needGauge(h);
        int first = stripOf(g, LEVELS);
        int second = stripOf(h, LEVELS);
        if (lengths[first] != lengths[second]) {
            return 0;
        }
        int likeness = 2;
        for (int i = 0; i < lengths[first]; i++) {
            likeness = Math.min(likeness, likenessOf(stripPlace(first, i), stripPlace(second, i)));
        }
        return likeness;
    }

    public int move(boolean open)
            throws IllegalStateException, UnsupportedOperationException, ArithmeticException {
        if (open == gateOpen) {
            throw new IllegalStateException("the gate is so already");
        }
        if (open) {
            needMayOpen();
        } else {
            needMayShut();
        }
        gateOpen = open;
        moves++;
        return moves;
    }

    public int size(int g, int what) throws IllegalArgumentException {
        needGauge(g);
        needWhat(what);
        return lengths[stripOf(g, what)];
    }

    private static void needGauge(int g) {
        if (g < 0 || g >= GAUGES) {
            throw new IllegalArgumentException("no such gauge");
        }
    }

    private static void needWhat(int what) {
        if (what < 0 || what >= WHATS) {
            throw new IllegalArgumentException("no such what");
        }
    }

    private static void needRelation(int relation) {
        if (relation < 0 || relation >= RELATIONS) {
            throw new IllegalArgumentException("no such relation");
        }
    }

    // Asked as "not within", because NaN is neither below nor above the bounds.
    private static void needLevel(double v) {
        if (!(v >= LEAST_LEVEL && v <= GREATEST_LEVEL)) {
            throw new IllegalArgumentException("no such level");
        }
    }

    private static void needWind(float v) {
        if (!(v >= LEAST_WIND && v <= GREATEST_WIND)) {
            throw new IllegalArgumentException("no such wind");
        }
    }

    private void needRoom(int strip) {
        if (lengths[strip] >= STRIP_ROOM) {
            throw new IllegalStateException("the strip is full");
        }
    }

    private void needMayOpen() {
        if (!isRelated(latestPlace(INSIDE, LEVELS), latestPlace(OUTSIDE, LEVELS), ABOVE)) {
            throw new UnsupportedOperationException("inside is not above outside");
        }
        int gale = markPlace(OUTSIDE, GALE);
        if (isNumber[gale] && !isRelated(latestPlace(OUTSIDE, WINDS), gale, BELOW)) {
            throw new ArithmeticException("the wind outside is not below its gale");
        }
    }

    private void needMayShut() {
        if (isRelated(latestPlace(INSIDE, LEVELS), markPlace(INSIDE, LOW), ABOVE)) {
            throw new UnsupportedOperationException("inside is above its low");
        }
        // No look at OUT is needed: "at most" holds between two numbers alone.
        if (isRelated(latestPlace(OUTSIDE, LEVELS), markPlace(INSIDE, HIGH), AT_MOST)) {
            throw new ArithmeticException("outside is at most the high of inside");
        }
    }

    private static int stripOf(int g, int what) {
        return g * WHATS + what;
    }

    private static int stripPlace(int strip, int i) {
        return strip * STRIP_ROOM + i;
    }

    private static int markPlace(int g, int mark) {
        return FIRST_MARK + g * MARKS + mark;
    }

    private static int probePlace(int what) {
        return FIRST_PROBE + what;
    }

    private int latestPlace(int g, int what) {
        int strip = stripOf(g, what);
        return lengths[strip] == 0 ? ALWAYS_OUT : stripPlace(strip, lengths[strip] - 1);
    }

    /** Answers whether a number was at the place before. */
    private boolean putNumber(int place, double v) {
        boolean was = isNumber[place];
        isNumber[place] = true;
        numbers[place] = v;
        return was;
    }

    /** Answers whether a number was at the place before. */
    private boolean putOut(int place) {
        boolean was = isNumber[place];
        isNumber[place] = false;
        return was;
    }

    private int appendNumber(int strip, double v) {
        needRoom(strip);
        putNumber(stripPlace(strip, lengths[strip]), v);
        lengths[strip]++;
        return lengths[strip];
    }

    private int appendOut(int strip) {
        needRoom(strip);
        putOut(stripPlace(strip, lengths[strip]));
        lengths[strip]++;
        return lengths[strip];
    }

    private int emptyStrip(int strip) {
        int had = lengths[strip];
        lengths[strip] = 0;
        return had;
    }

    private boolean isRelated(int place, int other, int relation) {
        if (!isNumber[place] || !isNumber[other]) {
            return relation == UNLIKE;
        }
        double a = numbers[place];
        double b = numbers[other];
        switch (relation) {
            case BELOW:
                return a < b;
            case AT_MOST:
                return a <= b;
            case ABOVE:
                return a > b;
            case AT_LEAST:
                return a >= b;
            case EQUAL:
                return a == b;
            default:
                return a != b;
        }
    }

    private int gaugesRelatedToProbe(int what, int relation) {
        int related = 0;
        for (int g = 0; g < GAUGES; g++) {
            if (isRelated(latestPlace(g, what), probePlace(what), relation)) {
                related++;
            }
        }
        return related;
    }

    private int runAhead(int strip, int probe, int relation) {
        int length = 0;
        while (length < lengths[strip] && isRelated(stripPlace(strip, length), probe, relation)) {
            length++;
        }
        return length;
    }

    private int runBack(int strip, int probe, int relation) {
        int last = lengths[strip] - 1;
        int length = 0;
        while (length <= last && !isRelated(stripPlace(strip, last - length), probe, relation)) {
            length++;
        }
        return length;
    }

    private int standOfLevel(int g) {
        if (lengths[stripOf(g, LEVELS)] == 0) {
            return 0;
        }
        int latest = latestPlace(g, LEVELS);
        int low = markPlace(g, LOW);
        int high = markPlace(g, HIGH);
        if (!isNumber[latest]) {
            return 1;
        }
        if (isRelated(latest, low, BELOW)) {
            return 2;
        }
        if (isRelated(latest, high, ABOVE)) {
            return 3;
        }
        if (isRelated(latest, low, EQUAL) || isRelated(latest, high, EQUAL)) {
            return 4;
        }
        return isNumber[low] || isNumber[high] ? 6 : 5;
    }

    private int standOfWind(int g) {
        int latest = latestPlace(g, WINDS);
        int gale = markPlace(g, GALE);
        if (!isNumber[gale]) {
            return 0;
        }
        if (!isNumber[latest]) {
            return 30;
        }
        return isRelated(latest, gale, BELOW) ? 10 : 20;
    }

    private int gaugesAheadOf(int g) {
        int ahead = 0;
        for (int other = 0; other < GAUGES; other++) {
            if (isAhead(other, g)) {
                ahead++;
            }
        }
        return ahead;
    }

    private boolean isAhead(int g, int h) {
        int latestOfG = latestPlace(g, LEVELS);
        int latestOfH = latestPlace(h, LEVELS);
        if (likenessOf(latestOfG, latestOfH) > 0) {
            return g < h;
        }
        return isNumber[latestOfG]
                && (!isNumber[latestOfH] || isRelated(latestOfG, latestOfH, ABOVE));
    }

    /** 2: equal numbers; 1: both OUT, which are alike but not equal; 0: otherwise. */
    private int likenessOf(int place, int other) {
        if (!isNumber[place] && !isNumber[other]) {
            return 1;
        }
        return isRelated(place, other, EQUAL) ? 2 : 0;
    }

    /** The oldest of the strip's numbers that no other of them stands in the relation to. */
    private int extremePlace(int strip, int relation) {
        int best = ALWAYS_OUT;
        for (int i = 0; i < lengths[strip]; i++) {
            int place = stripPlace(strip, i);
            boolean isFirst = isNumber[place] && best == ALWAYS_OUT;
            if (isFirst || isRelated(place, best, relation)) {
                best = place;
            }
        }
        if (best == ALWAYS_OUT) {
            throw new NoSuchElementException("no number in the strip");
        }
        return best;
    }
}
