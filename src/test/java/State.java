/** Reads and builds the state of a solver through its public face. */
final class State {
    private State() {
    }

    /** All that can be read of the state, but for the spreads, which the digest tells. */
    static String of(IntervalSolver x) {
        StringBuilder text = new StringBuilder();
        text.append(x.size()).append(';');
        for (int i = 0; i < x.size(); i++) {
            for (int j = 0; j < x.size(); j++) {
                text.append(x.coefficient(i, j)).append(' ');
            }
            text.append("= ").append(x.rightLow(i)).append("..").append(x.rightHigh(i));
            text.append(", box ").append(x.boxLow(i)).append("..").append(x.boxHigh(i)).append(';');
        }
        return text.append(x.digest()).toString();
    }

    /** A new system; each row gives its coefficients and then both ends of its right side. */
    static IntervalSolver system(int[]... rows) {
        IntervalSolver x = new IntervalSolver();
        int n = rows.length;
        x.setSize(n);
        for (int i = 0; i < n; i++) {
            for (int j = 0; j < n; j++) {
                x.setCoefficient(i, j, rows[i][j]);
            }
            x.setRight(i, rows[i][n], rows[i][n + 1]);
        }
        return x;
    }

    static int[] row(int... values) {
        return values;
    }

    static String box(IntervalSolver x) {
        StringBuilder text = new StringBuilder();
        for (int i = 0; i < x.size(); i++) {
            text.append(i == 0 ? "" : " ").append(x.boxLow(i)).append("..").append(x.boxHigh(i));
        }
        return text.toString();
    }

    static String hull(IntervalSolver x, int i) {
        return x.lowNumerator(i) + "/" + x.lowDenominator(i) + ".." + x.highNumerator(i) + "/"
                + x.highDenominator(i);
    }

    static String inverse(IntervalSolver x, int i, int j) {
        return x.inverseNumerator(i, j) + "/" + x.inverseDenominator(i, j);
    }

    static String variation(IntervalSolver x) {
        return x.variationNumerator() + "/" + x.variationDenominator();
    }
}
