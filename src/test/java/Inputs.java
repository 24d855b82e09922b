import java.util.NoSuchElementException;

/** What the tests share: the document's exceptions, and inputs at its edges and beyond them. */
final class Inputs {
    static final Class<IllegalArgumentException> IAE = IllegalArgumentException.class;
    static final Class<IllegalStateException> ISE = IllegalStateException.class;
    static final Class<UnsupportedOperationException> UOE = UnsupportedOperationException.class;
    static final Class<ArithmeticException> AE = ArithmeticException.class;
    static final Class<NoSuchElementException> NSE = NoSuchElementException.class;

    // The great ones are such that they wrap around to a small number when they are doubled,
    // tripled or taken by 12 or 24, or when their high bits are cut off.
    static final int[] NO_GAUGES = {
        -1, 6, 7, 12, -6, 255, 256, -256, 65536, 1 << 28, 1 << 29, 1 << 30, 0x55555556, 0x15555556, 0x0AAAAAAB,
        -(1 << 30), Integer.MIN_VALUE, Integer.MIN_VALUE + 1, Integer.MAX_VALUE};
    static final int[] NO_WHATS = {
        -1, 2, 3, -2, 256, 65537, 1 << 30, 0x55555556, Integer.MIN_VALUE, Integer.MIN_VALUE + 1, Integer.MAX_VALUE};
    static final int[] NO_LEVEL_MARKS = {
        -1, 2, 3, -3, 256, 65537, 1 << 30, 0x55555556, Integer.MIN_VALUE, Integer.MIN_VALUE + 1, Integer.MAX_VALUE};
    static final int[] NO_MARKS = {
        -1, 3, 4, -3, 256, 65538, 1 << 30, 0x55555556, Integer.MIN_VALUE, Integer.MIN_VALUE + 1, Integer.MAX_VALUE};
    static final int[] NO_RELATIONS = {
        -1, 6, 7, -5, 256, 65540, 1 << 30, 0x55555556, Integer.MIN_VALUE, Integer.MIN_VALUE + 1, Integer.MAX_VALUE};

    static final double[] LEVELS_AT_THE_EDGE = {
        -1000, Math.nextUp(-1000.0), -Double.MIN_VALUE, -0.0, 0.0, Double.MIN_VALUE, Math.nextDown(1000.0), 1000};
    static final double[] NO_LEVELS = {
        Double.NaN, Double.POSITIVE_INFINITY, Double.NEGATIVE_INFINITY, Double.MAX_VALUE, -Double.MAX_VALUE,
        Math.nextUp(1000.0), Math.nextDown(-1000.0), 1001, -1001, 4294967296.0, -4294967296.0};

    static final float[] WINDS_AT_THE_EDGE = {
        -0.0f, 0.0f, Float.MIN_VALUE, Float.MIN_NORMAL, Math.nextDown(200.0f), 200};
    static final float[] NO_WINDS = {
        Float.NaN, Float.POSITIVE_INFINITY, Float.NEGATIVE_INFINITY, Float.MAX_VALUE, -Float.MAX_VALUE,
        Math.nextUp(200.0f), -Float.MIN_VALUE, -1, 201, 4294967296.0f};

    private Inputs() {
    }
}
