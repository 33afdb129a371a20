/** Reads and builds the state of a solver through its public face. */
final class State {
    private State() {
    }

    /** All that can be read of the state, but for the spreads, which the digest tells. */
    static String of(IntervalSolver x) {
        int n = x.size();
        StringBuilder text = new StringBuilder();
        text.append(n).append(';');
        for (int i = 0; i < n; i++) {
            for (int j = 0; j < n; j++) {
                text.append(x.coefficient(i, j)).append(' ');
            }
            text.append("= ").append(x.rightLow(i)).append("..").append(x.rightHigh(i));
            text.append(", box ").append(x.boxLow(i)).append("..").append(x.boxHigh(i)).append(';');
        }
        return text.append(x.digest()).toString();
    }

    /** A new system; each row gives its coefficients and then both ends of its right side. */
    static IntervalSolver system(int[]... rows) {
        IntervalSolver x = new IntervalSolver();
        int n = rows.length;
        x.setSize(n);
        for (int i = 0; i < n; i++) {
            for (int j = 0; j < n; j++) {
                x.setCoefficient(i, j, rows[i][j]);
            }
            x.setRight(i, rows[i][n], rows[i][n + 1]);
        }
        return x;
    }

    /** A system of n rows with no number as it is in a new one; its determinant is not 0. */
    static IntervalSolver filled(int n) {
        IntervalSolver x = new IntervalSolver();
        x.setSize(n);
        for (int i = 0; i < n; i++) {
            for (int j = 0; j < n; j++) {
                x.setCoefficient(i, j, i == j ? -60 - i : 1 + i + 2 * j);
                x.setSpread(i, j, 1 + 5 * i + j);
            }
            x.setRight(i, -10 * i - 1, 20 * i + 2);
            x.setBox(i, -2000 - i, 3000 + i);
        }
        return x;
    }

    /** As filled, but with the determinant 0: the last row is twice the first, or 0 if it is alone. */
    static IntervalSolver singular(int n) {
        IntervalSolver x = filled(n);
        for (int j = 0; j < n; j++) {
            x.setCoefficient(0, j, n == 1 ? 0 : 7 - 3 * j);
            x.setCoefficient(n - 1, j, n == 1 ? 0 : 2 * (7 - 3 * j));
        }
        return x;
    }

    /** A system with the determinant 1 whose inverse has very great entries. */
    static IntervalSolver steep() {
        return system(
                row(-97, 49, -79, -87, -97, -999, 999),
                row(75, -26, 65, -84, -58, -999, 999),
                row(-99, -99, -42, 79, 38, -999, 999),
                row(-47, 59, -58, -86, 97, -999, 999),
                row(43, 89, 3, 82, 3, -999, 999));
    }

    static int[] row(int... values) {
        return values;
    }

    static String box(IntervalSolver x) {
        StringBuilder text = new StringBuilder();
        for (int i = 0; i < x.size(); i++) {
            text.append(i == 0 ? "" : " ").append(x.boxLow(i)).append("..").append(x.boxHigh(i));
        }
        return text.toString();
    }

    static String hull(IntervalSolver x, int i) {
        return x.lowNumerator(i) + "/" + x.lowDenominator(i) + ".." + x.highNumerator(i) + "/"
                + x.highDenominator(i);
    }

    static String inverse(IntervalSolver x, int i, int j) {
        return x.inverseNumerator(i, j) + "/" + x.inverseDenominator(i, j);
    }

    static String variation(IntervalSolver x) {
        return x.variationNumerator() + "/" + x.variationDenominator();
    }
}
