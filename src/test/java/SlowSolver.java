/**
 * The document once more, in unbounded fractions and by other ways than the program's: Gauss for
 * the determinant and the inverse, all corners of intervals for the least and the greatest values.
 */
final class SlowSolver {
    int n;
    Fraction[][] a;
    Fraction[][] spread;
    Fraction[] low;
    Fraction[] high;
    Fraction[] boxLow;
    Fraction[] boxHigh;

    SlowSolver(int n) {
        setSize(n);
    }

    void setSize(int size) {
        n = size;
        a = zeros();
        spread = zeros();
        low = zeros()[0];
        high = zeros()[0];
        boxLow = zeros()[0];
        boxHigh = zeros()[0];
        for (int i = 0; i < n; i++) {
            boxLow[i] = Fraction.of(-1000000000);
            boxHigh[i] = Fraction.of(1000000000);
        }
    }

    private Fraction[][] zeros() {
        Fraction[][] all = new Fraction[n][n];
        for (Fraction[] row : all) {
            java.util.Arrays.fill(row, Fraction.ZERO);
        }
        return all;
    }


    void swapRows(int i, int k) {
        swap(a, i, k);
        swap(spread, i, k);
        swap(low, i, k);
        swap(high, i, k);
    }

    private static <T> void swap(T[] values, int i, int k) {
        T value = values[i];
        values[i] = values[k];
        values[k] = value;
    }

    /** The number of coefficients that have changed, or -1 if the sum leaves the range. */
    int addRow(int i, int k, int factor) {
        Fraction newLow = low[i].plus(low[k].times(factor).min(high[k].times(factor)));
        Fraction newHigh = high[i].plus(low[k].times(factor).max(high[k].times(factor)));
        boolean fits = fits(newLow, 999) && fits(newHigh, 999);
        Fraction[] row = new Fraction[n];
        int changed = 0;
        for (int j = 0; j < n; j++) {
            row[j] = a[i][j].plus(a[k][j].times(factor));
            fits &= fits(row[j], 99);
            changed += row[j].compareTo(a[i][j]) == 0 ? 0 : 1;
        }
        if (!fits) {
            return -1;
        }
        a[i] = row;
        low[i] = newLow;
        high[i] = newHigh;
        return changed;
    }

    private static boolean fits(Fraction value, int most) {
        return !Fraction.of(most).isBelow(value.abs());
    }

    /** Gauss: gives the determinant, and fills inverse (of zeros) if the determinant is not 0. */
    private Fraction eliminate(Fraction[][] inverse) {
        Fraction[][] m = new Fraction[n][];
        for (int i = 0; i < n; i++) {
            m[i] = a[i].clone();
            inverse[i][i] = Fraction.of(1);
        }
        Fraction determinant = Fraction.of(1);
        for (int p = 0; p < n; p++) {
            int found = p;
            while (found < n && m[found][p].isZero()) {
                found++;
            }
            if (found == n) {
                return Fraction.ZERO;
            }
            if (found != p) {
                swap(m, found, p);
                swap(inverse, found, p);
                determinant = determinant.times(-1);
            }
            Fraction pivot = m[p][p];
            determinant = determinant.times(pivot);
            for (int j = 0; j < n; j++) {
                m[p][j] = m[p][j].over(pivot);
                inverse[p][j] = inverse[p][j].over(pivot);
            }
            for (int i = 0; i < n; i++) {
                Fraction factor = m[i][p];
                for (int j = 0; j < n && i != p; j++) {
                    m[i][j] = m[i][j].minus(m[p][j].times(factor));
                    inverse[i][j] = inverse[i][j].minus(inverse[p][j].times(factor));
                }
            }
        }
        return determinant;
    }

    Fraction determinant() {
        return eliminate(zeros());
    }

    Fraction[][] inverse() {
        Fraction[][] inverse = zeros();
        eliminate(inverse);
        return inverse;
    }

    /** The hull of a component, by the solutions of all corners of the right sides. */
    Fraction[] hull(int component) {
        Fraction[] row = inverse()[component];
        Fraction least = null;
        Fraction greatest = null;
        for (int corner = 0; corner < 1 << n; corner++) {
            Fraction value = Fraction.ZERO;
            for (int j = 0; j < n; j++) {
                value = value.plus(row[j].times((corner >> j & 1) == 0 ? low[j] : high[j]));
            }
            least = least == null ? value : least.min(value);
            greatest = greatest == null ? value : greatest.max(value);
        }
        return new Fraction[] {least, greatest};
    }

    boolean isSolution(int... x) {
        boolean all = true;
        for (int i = 0; i < n; i++) {
            Fraction sum = Fraction.ZERO;
            for (int j = 0; j < n; j++) {
                sum = sum.plus(a[i][j].times(x[j]));
            }
            all &= !sum.isBelow(low[i]) && !high[i].isBelow(sum);
        }
        return all;
    }

    double condition() {
        Fraction size = determinant().abs();
        Fraction scaled = norm(inverse()).times(size);
        return (double) norm(a).whole() * ((double) scaled.whole() / (double) size.whole());
    }

    private Fraction norm(Fraction[][] m) {
        Fraction greatest = Fraction.ZERO;
        for (Fraction[] row : m) {
            Fraction sum = Fraction.ZERO;
            for (Fraction value : row) {
                sum = sum.plus(value.abs());
            }
            greatest = greatest.max(sum);
        }
        return greatest;
    }

    Fraction variation() {
        Fraction[][] inverse = inverse();
        Fraction[][] v = zeros();
        for (int i = 0; i < n; i++) {
            for (int j = 0; j < n; j++) {
                for (int k = 0; k < n; k++) {
                    v[i][j] = v[i][j].plus(inverse[i][k].abs().times(spread[k][j]).over(Fraction.of(100)));
                }
            }
        }
        return norm(v);
    }

    boolean isDominant() {
        boolean all = true;
        for (int i = 0; i < n; i++) {
            Fraction sum = Fraction.ZERO;
            for (int j = 0; j < n; j++) {
                if (j != i) {
                    sum = sum.plus(a[i][j].abs()).plus(spread[i][j].over(Fraction.of(100)));
                }
            }
            all &= sum.isBelow(a[i][i].abs().minus(spread[i][i].over(Fraction.of(100))));
        }
        return all;
    }

    int sweep() {
        Fraction[] keptLow = boxLow.clone();
        Fraction[] keptHigh = boxHigh.clone();
        for (int i = 0; i < n; i++) {
            if (a[i][i].isZero()) {
                continue;
            }
            Fraction least = null;
            Fraction greatest = null;
            for (int corner = 0; corner < 1 << n; corner++) {
                Fraction value = ((corner >> i & 1) == 0 ? low[i] : high[i]).times(1024);
                for (int j = 0; j < n; j++) {
                    if (j != i) {
                        value = value.minus(a[i][j].times((corner >> j & 1) == 0 ? boxLow[j] : boxHigh[j]));
                    }
                }
                value = value.over(a[i][i]);
                least = least == null ? value : least.min(value);
                greatest = greatest == null ? value : greatest.max(value);
            }
            if (!intersect(i, least, greatest)) {
                boxLow = keptLow;
                boxHigh = keptHigh;
                return -1;
            }
        }
        return changes(keptLow, keptHigh);
    }

    private boolean intersect(int i, Fraction least, Fraction greatest) {
        boxLow[i] = boxLow[i].max(least.floor());
        boxHigh[i] = boxHigh[i].min(greatest.ceiling());
        return !boxHigh[i].isBelow(boxLow[i]);
    }

    private int changes(Fraction[] keptLow, Fraction[] keptHigh) {
        int changed = 0;
        for (int i = 0; i < n; i++) {
            boolean same = boxLow[i].compareTo(keptLow[i]) == 0 && boxHigh[i].compareTo(keptHigh[i]) == 0;
            changed += same ? 0 : 1;
        }
        return changed;
    }

    int contract(int most) {
        int made = 0;
        int last = 1;
        while (last > 0 && made < most) {
            last = sweep();
            made++;
        }
        return last < 0 ? -made : made;
    }

    int sharpen() {
        Fraction[] keptLow = boxLow.clone();
        Fraction[] keptHigh = boxHigh.clone();
        for (int i = 0; i < n; i++) {
            Fraction[] hull = hull(i);
            if (!intersect(i, hull[0].times(1024), hull[1].times(1024))) {
                boxLow = keptLow;
                boxHigh = keptHigh;
                return -1;
            }
        }
        return changes(keptLow, keptHigh);
    }

    boolean isCertified() {
        boolean all = true;
        for (int i = 0; i < n; i++) {
            Fraction[] hull = hull(i);
            all &= !hull[0].times(1024).isBelow(boxLow[i]) && !boxHigh[i].isBelow(hull[1].times(1024));
        }
        return all;
    }

    Fraction residual(int i, Fraction right) {
        Fraction sum = right.times(-2048);
        for (int j = 0; j < n; j++) {
            sum = sum.plus(a[i][j].times(boxLow[j].plus(boxHigh[j])));
        }
        return sum;
    }

    long digest() {
        long d = 61L * 31 + n;
        for (int i = 0; i < n; i++) {
            for (int j = 0; j < n; j++) {
                d = d * 31 + a[i][j].whole();
            }
            for (int j = 0; j < n; j++) {
                d = d * 31 + spread[i][j].whole();
            }
            d = (d * 31 + low[i].whole()) * 31 + high[i].whole();
        }
        for (int i = 0; i < n; i++) {
            d = (d * 31 + boxLow[i].whole()) * 31 + boxHigh[i].whole();
        }
        return d * 31 + determinant().whole();
    }
}
