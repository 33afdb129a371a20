import java.util.Random;

/**
 * Runs of drawn calls, each made of the program and of SlowSolver; the draws are always the same.
 * That a refused call has changed nothing is seen by the digests that are compared next.
 */
public final class RandomRunsTest {
    private static final Check CHECK = new Check();
    private static final int RUNS = 900;
    /** Few enough that no object is called more than 512 times: nothing is promised of it after that. */
    private static final int CHANGES = 26;

    private final Random random;
    private final IntervalSolver x = new IntervalSolver();
    private final SlowSolver y = new SlowSolver(1);
    /** How far coefficients reach in this run: small ones are often singular, or dominant. */
    private final int reach;

    private RandomRunsTest(int seed) {
        random = new Random(seed);
        reach = random.nextInt(3) == 0 ? 99 : 1 + random.nextInt(6);
    }

    public static void main(String[] args) {
        for (int seed = 0; seed < RUNS; seed++) {
            RandomRunsTest run = new RandomRunsTest(seed);
            run.start();
            for (int change = 0; change < CHANGES; change++) {
                run.change();
                run.compare("seed " + seed + ", change " + change);
            }
        }
        CHECK.end();
    }

    private int between(int least, int greatest) {
        return least + random.nextInt(greatest - least + 1);
    }

    private void start() {
        int n = between(1, 5);
        x.setSize(n);
        y.setSize(n);
        for (int i = 0; i < n; i++) {
            for (int j = 0; j < n; j++) {
                coefficient(i, j);
            }
            // Most runs have a heavy diagonal, so that their sweeps contract.
            if (random.nextInt(4) > 0) {
                int value = between(0, 1) == 0 ? between(40, 99) : between(-99, -40);
                x.setCoefficient(i, i, value);
                y.a[i][i] = Fraction.of(value);
            }
            right(i);
        }
    }

    private void coefficient(int i, int j) {
        int value = between(-reach, reach);
        CHECK.due("setCoefficient", x.setCoefficient(i, j, value), y.a[i][j].whole());
        y.a[i][j] = Fraction.of(value);
    }

    private void right(int i) {
        int low = between(-999, 999);
        int high = Math.min(999, low + between(0, 1) * between(0, 300));
        boolean other = y.low[i].whole() != low || y.high[i].whole() != high;
        CHECK.due("setRight", x.setRight(i, low, high), other);
        y.low[i] = Fraction.of(low);
        y.high[i] = Fraction.of(high);
    }

    private void spread(int i, int j) {
        int value = between(0, 50);
        CHECK.due("setSpread", x.setSpread(i, j, value), y.spread[i][j].whole());
        y.spread[i][j] = Fraction.of(value);
    }

    private void box(int i) {
        int reach = between(0, 2) == 0 ? 1000000000 : between(0, 1) == 0 ? 100000 : 3000;
        int one = between(-reach, reach);
        int two = between(-reach, reach);
        int low = Math.min(one, two);
        int high = Math.max(one, two);
        boolean other = y.boxLow[i].whole() != low || y.boxHigh[i].whole() != high;
        CHECK.due("setBox", x.setBox(i, low, high), other);
        y.boxLow[i] = Fraction.of(low);
        y.boxHigh[i] = Fraction.of(high);
    }

    private void addRow(int i, int k) {
        int factor = between(-3, 3);
        if (i == k) {
            CHECK.dueThrows("addRow", IllegalArgumentException.class, () -> x.addRow(i, k, factor));
            return;
        }
        int due = y.addRow(i, k, factor);
        if (due < 0) {
            CHECK.dueThrows("addRow", ArithmeticException.class, () -> x.addRow(i, k, factor));
        } else {
            CHECK.due("addRow", x.addRow(i, k, factor), due);
        }
    }

    private void change() {
        int i = between(0, y.n - 1);
        int k = between(0, y.n - 1);
        switch (between(0, 11)) {
            case 0 -> coefficient(i, k);
            case 1, 2 -> right(i);
            case 3, 4 -> spread(i, k);
            case 5, 6 -> box(i);
            case 7 -> addRow(i, k);
            case 8 -> {
                CHECK.due("swapRows", x.swapRows(i, k), i != k);
                y.swapRows(i, k);
            }
            case 9 -> CHECK.due("sweep", x.sweep(), y.sweep());
            case 10 -> {
                int most = between(1, 8);
                CHECK.due("contract", x.contract(most), y.contract(most));
            }
            default -> sharpen();
        }
    }

    private void sharpen() {
        if (y.determinant().isZero()) {
            CHECK.dueThrows("sharpen", ArithmeticException.class, () -> x.sharpen());
        } else {
            CHECK.due("sharpen", x.sharpen(), y.sharpen());
        }
    }

    private void compare(String where) {
        CHECK.due(where + ": digest", x.digest(), y.digest());
        CHECK.due(where + ": determinant", x.determinant(), y.determinant().whole());
        CHECK.due(where + ": isDominant", x.isDominant(), y.isDominant());
        int[] point = new int[5];
        for (int j = 0; j < 5; j++) {
            point[j] = between(-9, 9);
        }
        CHECK.due(where + ": isSolution", x.isSolution(point[0], point[1], point[2], point[3], point[4]),
                y.isSolution(point));
        int i = between(0, y.n - 1);
        int j = between(0, y.n - 1);
        CHECK.due(where + ": residualLow", x.residualLow(i), y.residual(i, y.high[i]).whole());
        CHECK.due(where + ": residualHigh", x.residualHigh(i), y.residual(i, y.low[i]).whole());
        if (y.determinant().isZero()) {
            CHECK.due(where + ": isSafe", x.isSafe(), false);
            CHECK.dueThrows(where + ": isCertified", ArithmeticException.class, () -> x.isCertified());
            return;
        }
        Fraction[] hull = y.hull(i);
        CHECK.due(where + ": hull", State.hull(x, i), hull[0] + ".." + hull[1]);
        CHECK.due(where + ": inverse", State.inverse(x, i, j), y.inverse()[i][j].toString());
        CHECK.due(where + ": condition", x.condition(), y.condition());
        CHECK.due(where + ": variation", State.variation(x), y.variation().toString());
        CHECK.due(where + ": isSafe", x.isSafe(), y.variation().isBelow(Fraction.of(1)));
        CHECK.due(where + ": isCertified", x.isCertified(), y.isCertified());
    }
}
