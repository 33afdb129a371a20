/**
 * A solver for systems of linear equations whose right sides are intervals: the exact hull of the
 * solutions, boxes that are contracted with rounding to the outside, and spreads of coefficients.
 *
 * <p>No sum here can leave the range of a long: a determinant stays below 10^12 (Hadamard), a
 * numerator of the hull below 10^13, and a row's products with a box below 10^12.
 */
public final class IntervalSolver {
    private static final int MOST_ROWS = 5;
    private static final int COLUMN_SETS = 1 << MOST_ROWS;
    private static final int MOST_COEFFICIENT = 99;
    private static final int MOST_FACTOR = 99;
    private static final int MOST_RIGHT = 999;
    private static final int MOST_SPREAD = 50;
    private static final int SPREAD_UNITS = 100;
    private static final int MOST_BOX = 1000000000;
    private static final int BOX_UNITS = 1024;
    private static final int MOST_SWEEPS = 1000;
    /** Euclid's steps for two longs are fewer than this. */
    private static final int MOST_DIVISIONS = 100;
    private static final long DIGEST_START = 61;
    private static final long DIGEST_FACTOR = 31;

    private int n;
    private final int[][] coefficients = new int[MOST_ROWS][MOST_ROWS];
    private final int[][] spreads = new int[MOST_ROWS][MOST_ROWS];
    private final int[] rightLows = new int[MOST_ROWS];
    private final int[] rightHighs = new int[MOST_ROWS];
    private final int[] boxLows = new int[MOST_ROWS];
    private final int[] boxHighs = new int[MOST_ROWS];

    // What follows holds nothing between calls: it is made once, so that no call makes an array.
    private final int[] keptLows = new int[MOST_ROWS];
    private final int[] keptHighs = new int[MOST_ROWS];
    private final long[] minors = new long[COLUMN_SETS];
    private final long[] vector = new long[MOST_ROWS];
    /** The inverse matrix times {@link #scale}, as integers; see {@link #invert}. */
    private final long[][] scaledInverse = new long[MOST_ROWS][MOST_ROWS];
    /** The absolute value of the determinant; see {@link #invert}. */
    private long scale;

    public IntervalSolver() {
        startSystem(1);
    }

    // ---- system

    public int setSize(int n) throws IllegalArgumentException {
        if (n < 1 || n > MOST_ROWS) {
            throw new IllegalArgumentException("the number of equations is not 1 to 5");
        }
        startSystem(n);
        return n;
    }

    public int size() {
        return n;
    }

    public int setCoefficient(int i, int j, int value)
            throws IndexOutOfBoundsException, IllegalArgumentException {
        if (!isIndex(i) || !isIndex(j)) {
            throw new IndexOutOfBoundsException("no such row or column");
        }
        if (!isWithin(value, MOST_COEFFICIENT)) {
            throw new IllegalArgumentException("the coefficient is not -99 to 99");
        }
        int before = coefficients[i][j];
        coefficients[i][j] = value;
        return before;
    }

    public int coefficient(int i, int j) throws IndexOutOfBoundsException {
        if (!isIndex(i) || !isIndex(j)) {
            throw new IndexOutOfBoundsException("no such row or column");
        }
        return coefficients[i][j];
    }

    public boolean setRight(int i, int low, int high)
            throws IndexOutOfBoundsException, IllegalArgumentException {
        if (!isIndex(i)) {
            throw new IndexOutOfBoundsException("no such row");
        }
        if (!isInterval(low, high, MOST_RIGHT)) {
            throw new IllegalArgumentException("the right side is no interval in -999 to 999");
        }
        boolean other = rightLows[i] != low || rightHighs[i] != high;
        rightLows[i] = low;
        rightHighs[i] = high;
        return other;
    }

    public int rightLow(int i) throws IndexOutOfBoundsException {
        if (!isIndex(i)) {
            throw new IndexOutOfBoundsException("no such row");
        }
        return rightLows[i];
    }

    public int rightHigh(int i) throws IndexOutOfBoundsException {
        if (!isIndex(i)) {
            throw new IndexOutOfBoundsException("no such row");
        }
        return rightHighs[i];
    }

    public int setSpread(int i, int j, int value)
            throws IndexOutOfBoundsException, IllegalArgumentException {
        if (!isIndex(i) || !isIndex(j)) {
            throw new IndexOutOfBoundsException("no such row or column");
        }
        if (value < 0 || value > MOST_SPREAD) {
            throw new IllegalArgumentException("the spread is not 0 to 50");
        }
        int before = spreads[i][j];
        spreads[i][j] = value;
        return before;
    }

    public boolean swapRows(int i, int k) throws IndexOutOfBoundsException {
        if (!isIndex(i) || !isIndex(k)) {
            throw new IndexOutOfBoundsException("no such row");
        }
        for (int j = 0; j < n; j++) {
            int coefficient = coefficients[i][j];
            coefficients[i][j] = coefficients[k][j];
            coefficients[k][j] = coefficient;
            int spread = spreads[i][j];
            spreads[i][j] = spreads[k][j];
            spreads[k][j] = spread;
        }
        exchange(rightLows, i, k);
        exchange(rightHighs, i, k);
        return i != k;
    }

    public int addRow(int i, int k, int factor)
            throws IndexOutOfBoundsException, IllegalArgumentException, ArithmeticException {
        if (!isIndex(i) || !isIndex(k)) {
            throw new IndexOutOfBoundsException("no such row");
        }
        if (i == k || !isWithin(factor, MOST_FACTOR)) {
            throw new IllegalArgumentException("the same row, or a factor that is not -99 to 99");
        }
        int low = rightLows[i] + productLow(factor, rightLows[k], rightHighs[k]);
        int high = rightHighs[i] + productHigh(factor, rightLows[k], rightHighs[k]);
        if (!isInterval(low, high, MOST_RIGHT) || !coefficientsFit(i, k, factor)) {
            throw new ArithmeticException("the sum of the rows leaves the range of a system");
        }
        rightLows[i] = low;
        rightHighs[i] = high;
        return addCoefficients(i, k, factor);
    }

    // ---- exact answers

    public long determinant() {
        findMinors(n);
        return minors[allColumns()];
    }

    public long lowNumerator(int i) throws IndexOutOfBoundsException, ArithmeticException {
        if (!isIndex(i)) {
            throw new IndexOutOfBoundsException("no such component");
        }
        if (!invert()) {
            throw new ArithmeticException("the determinant is 0");
        }
        return reduced(scaledHullLow(i), scale);
    }

    public long lowDenominator(int i) throws IndexOutOfBoundsException, ArithmeticException {
        if (!isIndex(i)) {
            throw new IndexOutOfBoundsException("no such component");
        }
        if (!invert()) {
            throw new ArithmeticException("the determinant is 0");
        }
        return reduced(scale, scaledHullLow(i));
    }

    public long highNumerator(int i) throws IndexOutOfBoundsException, ArithmeticException {
        if (!isIndex(i)) {
            throw new IndexOutOfBoundsException("no such component");
        }
        if (!invert()) {
            throw new ArithmeticException("the determinant is 0");
        }
        return reduced(scaledHullHigh(i), scale);
    }

    public long highDenominator(int i) throws IndexOutOfBoundsException, ArithmeticException {
        if (!isIndex(i)) {
            throw new IndexOutOfBoundsException("no such component");
        }
        if (!invert()) {
            throw new ArithmeticException("the determinant is 0");
        }
        return reduced(scale, scaledHullHigh(i));
    }

    public long inverseNumerator(int i, int j) throws IndexOutOfBoundsException, ArithmeticException {
        if (!isIndex(i) || !isIndex(j)) {
            throw new IndexOutOfBoundsException("no such row or column");
        }
        if (!invert()) {
            throw new ArithmeticException("the determinant is 0");
        }
        return reduced(scaledInverse[i][j], scale);
    }

    public long inverseDenominator(int i, int j) throws IndexOutOfBoundsException, ArithmeticException {
        if (!isIndex(i) || !isIndex(j)) {
            throw new IndexOutOfBoundsException("no such row or column");
        }
        if (!invert()) {
            throw new ArithmeticException("the determinant is 0");
        }
        return reduced(scale, scaledInverse[i][j]);
    }

    public boolean isSolution(int a, int b, int c, int d, int e) {
        vector[0] = a;
        vector[1] = b;
        vector[2] = c;
        vector[3] = d;
        vector[4] = e;
        for (int i = 0; i < n; i++) {
            long sum = 0;
            for (int j = 0; j < n; j++) {
                sum += coefficients[i][j] * vector[j];
            }
            if (sum < rightLows[i] || sum > rightHighs[i]) {
                return false;
            }
        }
        return true;
    }

    public double condition() throws ArithmeticException {
        if (!invert()) {
            throw new ArithmeticException("the determinant is 0");
        }
        long greatest = 0;
        long greatestScaled = 0;
        for (int i = 0; i < n; i++) {
            long sum = 0;
            long scaledSum = 0;
            for (int j = 0; j < n; j++) {
                sum += Math.abs(coefficients[i][j]);
                scaledSum += Math.abs(scaledInverse[i][j]);
            }
            greatest = Math.max(greatest, sum);
            greatestScaled = Math.max(greatestScaled, scaledSum);
        }
        return (double) greatest * ((double) greatestScaled / (double) scale);
    }

    // ---- variation

    public long variationNumerator() throws ArithmeticException {
        if (!invert()) {
            throw new ArithmeticException("the determinant is 0");
        }
        return reduced(scaledVariation(), SPREAD_UNITS * scale);
    }

    public long variationDenominator() throws ArithmeticException {
        if (!invert()) {
            throw new ArithmeticException("the determinant is 0");
        }
        return reduced(SPREAD_UNITS * scale, scaledVariation());
    }

    public boolean isSafe() {
        return invert() && scaledVariation() < SPREAD_UNITS * scale;
    }

    public boolean isDominant() {
        for (int i = 0; i < n; i++) {
            int excess = 0;
            for (int j = 0; j < n; j++) {
                int weight = SPREAD_UNITS * Math.abs(coefficients[i][j]);
                excess += j == i ? weight - spreads[i][j] : -weight - spreads[i][j];
            }
            if (excess <= 0) {
                return false;
            }
        }
        return true;
    }

    // ---- box

    public boolean setBox(int i, int low, int high)
            throws IndexOutOfBoundsException, IllegalArgumentException {
        if (!isIndex(i)) {
            throw new IndexOutOfBoundsException("no such component");
        }
        if (!isInterval(low, high, MOST_BOX)) {
            throw new IllegalArgumentException("no interval in -1000000000 to 1000000000");
        }
        boolean other = boxLows[i] != low || boxHighs[i] != high;
        boxLows[i] = low;
        boxHighs[i] = high;
        return other;
    }

    public int boxLow(int i) throws IndexOutOfBoundsException {
        if (!isIndex(i)) {
            throw new IndexOutOfBoundsException("no such component");
        }
        return boxLows[i];
    }

    public int boxHigh(int i) throws IndexOutOfBoundsException {
        if (!isIndex(i)) {
            throw new IndexOutOfBoundsException("no such component");
        }
        return boxHighs[i];
    }

    public int sweep() {
        keepBox();
        int changed = 0;
        for (int i = 0; i < n; i++) {
            int change = coefficients[i][i] == 0 ? 0 : contractBy(i);
            if (change < 0) {
                restoreBox();
                return -1;
            }
            changed += change;
        }
        return changed;
    }

    public int contract(int most) throws IllegalArgumentException {
        if (most < 1 || most > MOST_SWEEPS) {
            throw new IllegalArgumentException("the number of sweeps is not 1 to 1000");
        }
        for (int made = 1; made <= most; made++) {
            int changed = sweep();
            if (changed < 0) {
                return -made;
            }
            if (changed == 0) {
                return made;
            }
        }
        return most;
    }

    public int sharpen() throws ArithmeticException {
        if (!invert()) {
            throw new ArithmeticException("the determinant is 0");
        }
        keepBox();
        int changed = 0;
        for (int i = 0; i < n; i++) {
            int change = intersect(i, hullLowInUnits(i), hullHighInUnits(i));
            if (change < 0) {
                restoreBox();
                return -1;
            }
            changed += change;
        }
        return changed;
    }

    public boolean isCertified() throws ArithmeticException {
        if (!invert()) {
            throw new ArithmeticException("the determinant is 0");
        }
        for (int i = 0; i < n; i++) {
            // The box has integers as ends, so rounding the hull to the outside decides nothing.
            if (hullLowInUnits(i) < boxLows[i] || hullHighInUnits(i) > boxHighs[i]) {
                return false;
            }
        }
        return true;
    }

    public long residualLow(int i) throws IndexOutOfBoundsException {
        if (!isIndex(i)) {
            throw new IndexOutOfBoundsException("no such row");
        }
        return doubledMiddle(i) - 2L * BOX_UNITS * rightHighs[i];
    }

    public long residualHigh(int i) throws IndexOutOfBoundsException {
        if (!isIndex(i)) {
            throw new IndexOutOfBoundsException("no such row");
        }
        return doubledMiddle(i) - 2L * BOX_UNITS * rightLows[i];
    }

    public long digest() {
        long d = mixed(DIGEST_START, n);
        for (int i = 0; i < n; i++) {
            for (int j = 0; j < n; j++) {
                d = mixed(d, coefficients[i][j]);
            }
            for (int j = 0; j < n; j++) {
                d = mixed(d, spreads[i][j]);
            }
            d = mixed(mixed(d, rightLows[i]), rightHighs[i]);
        }
        for (int i = 0; i < n; i++) {
            d = mixed(mixed(d, boxLows[i]), boxHighs[i]);
        }
        return mixed(d, determinant());
    }

    // ---- helpers: system

    private void startSystem(int rows) {
        n = rows;
        for (int i = 0; i < MOST_ROWS; i++) {
            for (int j = 0; j < MOST_ROWS; j++) {
                coefficients[i][j] = 0;
                spreads[i][j] = 0;
            }
            rightLows[i] = 0;
            rightHighs[i] = 0;
            boxLows[i] = -MOST_BOX;
            boxHighs[i] = MOST_BOX;
        }
    }

    private boolean isIndex(int i) {
        return i >= 0 && i < n;
    }

    private static boolean isWithin(int value, int most) {
        return value >= -most && value <= most;
    }

    private static boolean isInterval(int low, int high, int most) {
        return isWithin(low, most) && isWithin(high, most) && low <= high;
    }

    private static void exchange(int[] values, int i, int k) {
        int value = values[i];
        values[i] = values[k];
        values[k] = value;
    }

    private boolean coefficientsFit(int i, int k, int factor) {
        for (int j = 0; j < n; j++) {
            if (!isWithin(coefficients[i][j] + factor * coefficients[k][j], MOST_COEFFICIENT)) {
                return false;
            }
        }
        return true;
    }

    private int addCoefficients(int i, int k, int factor) {
        int changed = 0;
        for (int j = 0; j < n; j++) {
            int summand = factor * coefficients[k][j];
            coefficients[i][j] += summand;
            changed += summand == 0 ? 0 : 1;
        }
        return changed;
    }

    private static int productLow(int factor, int low, int high) {
        return factor * (factor < 0 ? high : low);
    }

    private static int productHigh(int factor, int low, int high) {
        return factor * (factor < 0 ? low : high);
    }

    // ---- helpers: exact answers

    private int allColumns() {
        return (1 << n) - 1;
    }

    /**
     * Finds, for each set of columns (a bit each), the determinant of these columns and as many of
     * the first rows, where the row skipped is left out (n leaves out none).
     */
    private void findMinors(int skipped) {
        minors[0] = 1;
        for (int columns = 1; columns <= allColumns(); columns++) {
            int row = Integer.bitCount(columns) - 1;
            if (row >= skipped) {
                row++;
            }
            minors[columns] = row < n ? expanded(row, columns) : 0;
        }
    }

    /** Expands a minor along its last row, by the minors of one column less. */
    private long expanded(int row, int columns) {
        long sum = 0;
        long sign = 1;
        for (int j = n - 1; j >= 0; j--) {
            int column = 1 << j;
            if ((columns & column) != 0) {
                sum += sign * coefficients[row][j] * minors[columns ^ column];
                sign = -sign;
            }
        }
        return sum;
    }

    /**
     * Fills scaledInverse and scale, so that their quotients are the inverse matrix.
     *
     * @return whether there is an inverse matrix; if not, both stay as they are
     */
    private boolean invert() {
        long determinant = determinant();
        if (determinant == 0) {
            return false;
        }
        scale = Math.abs(determinant);
        for (int i = 0; i < n; i++) {
            findMinors(i);
            long sign = (determinant < 0) == (i % 2 == 0) ? -1 : 1;
            for (int j = 0; j < n; j++) {
                scaledInverse[j][i] = sign * minors[allColumns() ^ (1 << j)];
                sign = -sign;
            }
        }
        return true;
    }

    private long scaledHullLow(int i) {
        long sum = 0;
        for (int j = 0; j < n; j++) {
            long weight = scaledInverse[i][j];
            sum += weight * (weight < 0 ? rightHighs[j] : rightLows[j]);
        }
        return sum;
    }

    private long scaledHullHigh(int i) {
        long sum = 0;
        for (int j = 0; j < n; j++) {
            long weight = scaledInverse[i][j];
            sum += weight * (weight < 0 ? rightLows[j] : rightHighs[j]);
        }
        return sum;
    }

    /** Divides a number by the greatest common divisor of it and another one. */
    private static long reduced(long number, long other) {
        long divisor = greatestCommonDivisor(number, other);
        return divisor == 0 ? number : number / divisor;
    }

    private static long greatestCommonDivisor(long a, long b) {
        long greater = Math.abs(a);
        long rest = Math.abs(b);
        for (int step = 0; step < MOST_DIVISIONS && rest != 0; step++) {
            long next = greater % rest;
            greater = rest;
            rest = next;
        }
        return greater;
    }

    /** The variation in units of 1 / (100 * scale). */
    private long scaledVariation() {
        long greatest = 0;
        for (int i = 0; i < n; i++) {
            long sum = 0;
            for (int k = 0; k < n; k++) {
                for (int j = 0; j < n; j++) {
                    sum += Math.abs(scaledInverse[i][k]) * spreads[k][j];
                }
            }
            greatest = Math.max(greatest, sum);
        }
        return greatest;
    }

    // ---- helpers: box

    private void keepBox() {
        System.arraycopy(boxLows, 0, keptLows, 0, MOST_ROWS);
        System.arraycopy(boxHighs, 0, keptHighs, 0, MOST_ROWS);
    }

    private void restoreBox() {
        System.arraycopy(keptLows, 0, boxLows, 0, MOST_ROWS);
        System.arraycopy(keptHighs, 0, boxHighs, 0, MOST_ROWS);
    }

    /** Intersects component i with what row i leaves to it; answers as intersect does. */
    private int contractBy(int i) {
        long least = (long) BOX_UNITS * rightLows[i];
        long greatest = (long) BOX_UNITS * rightHighs[i];
        for (int j = 0; j < n; j++) {
            if (j != i) {
                long a = coefficients[i][j];
                least -= a * (a < 0 ? boxLows[j] : boxHighs[j]);
                greatest -= a * (a < 0 ? boxHighs[j] : boxLows[j]);
            }
        }
        long divisor = coefficients[i][i];
        return divisor < 0
                ? intersect(i, quotientDown(greatest, divisor), quotientUp(least, divisor))
                : intersect(i, quotientDown(least, divisor), quotientUp(greatest, divisor));
    }

    /** Intersects an interval of the box; answers 1 or 0 for a change or none, -1 if it is empty. */
    private int intersect(int i, long low, long high) {
        long newLow = Math.max(low, boxLows[i]);
        long newHigh = Math.min(high, boxHighs[i]);
        if (newLow > newHigh) {
            return -1;
        }
        boolean changed = newLow != boxLows[i] || newHigh != boxHighs[i];
        boxLows[i] = (int) newLow;
        boxHighs[i] = (int) newHigh;
        return changed ? 1 : 0;
    }

    private long hullLowInUnits(int i) {
        return quotientDown(BOX_UNITS * scaledHullLow(i), scale);
    }

    private long hullHighInUnits(int i) {
        return quotientUp(BOX_UNITS * scaledHullHigh(i), scale);
    }

    // No caller has a divisor of 0; the test keeps the division itself from ever throwing.
    private static long quotientDown(long number, long divisor) {
        return divisor == 0 ? 0 : Math.floorDiv(number, divisor);
    }

    private static long quotientUp(long number, long divisor) {
        return -quotientDown(-number, divisor);
    }

    /** The sum that row i gives at the middle of the box, in units of 1 / 2048. */
    private long doubledMiddle(int i) {
        long sum = 0;
        for (int j = 0; j < n; j++) {
            sum += coefficients[i][j] * ((long) boxLows[j] + boxHighs[j]);
        }
        return sum;
    }

    private static long mixed(long d, long x) {
        return d * DIGEST_FACTOR + x;
    }
}
