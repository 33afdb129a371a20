import java.util.function.Consumer;

/**
 * The Throws sentences of all promises: which places there are in a system of each size, what a
 * determinant of 0 refuses, which exception comes first, and that a refused call changes nothing.
 */
public final class RefusedCallsTest {
    private static final Check CHECK = new Check();
    private static final int MOST_BOX = 1000000000;

    public static void main(String[] args) {
        for (int n = 1; n <= 5; n++) {
            for (int wrong : State.row(-1, n, 5, 6, Integer.MIN_VALUE, Integer.MAX_VALUE)) {
                noSuchRowOrColumn(n, wrong);
                noSuchRow(n, wrong);
                noSuchComponent(n, wrong);
                indexComesBeforeArgument(n, wrong);
            }
            everyPlaceIsTaken(n);
            determinantOfZero(n);
            determinantOfZeroRefusesNothingElse(n);
        }
        argumentComesBeforeArithmetic();
        refusedAndMended();
        CHECK.end();
    }

    /** The call is due to throw an IndexOutOfBoundsException, whether the determinant is 0 or not. */
    private static void index(String call, int n, Consumer<IntervalSolver> made) {
        IntervalSolver x = State.filled(n);
        CHECK.index(call + " of " + n, x, () -> made.accept(x));
        IntervalSolver y = State.singular(n);
        CHECK.index(call + " of " + n + ", determinant 0", y, () -> made.accept(y));
    }

    /** 4, 5, 9, 17, 18: "if there is no such row or column". */
    private static void noSuchRowOrColumn(int n, int wrong) {
        int last = n - 1;
        index("4: row " + wrong, n, x -> x.setCoefficient(wrong, 0, 1));
        index("4: column " + wrong, n, x -> x.setCoefficient(last, wrong, 1));
        index("5: row " + wrong, n, x -> x.coefficient(wrong, last));
        index("5: column " + wrong, n, x -> x.coefficient(0, wrong));
        index("9: row " + wrong, n, x -> x.setSpread(wrong, 0, 1));
        index("9: column " + wrong, n, x -> x.setSpread(last, wrong, 1));
        index("17: row " + wrong, n, x -> x.inverseNumerator(wrong, last));
        index("17: column " + wrong, n, x -> x.inverseNumerator(0, wrong));
        index("18: row " + wrong, n, x -> x.inverseDenominator(wrong, 0));
        index("18: column " + wrong, n, x -> x.inverseDenominator(last, wrong));
    }

    /** 6 to 8, 10, 11, 32, 33: "if there is no such row". */
    private static void noSuchRow(int n, int wrong) {
        int last = n - 1;
        index("6: row " + wrong, n, x -> x.setRight(wrong, 0, 0));
        index("7: row " + wrong, n, x -> x.rightLow(wrong));
        index("8: row " + wrong, n, x -> x.rightHigh(wrong));
        index("10: row " + wrong, n, x -> x.swapRows(wrong, 0));
        index("10: other row " + wrong, n, x -> x.swapRows(last, wrong));
        index("10: both rows " + wrong, n, x -> x.swapRows(wrong, wrong));
        index("11: row " + wrong, n, x -> x.addRow(wrong, 0, 1));
        index("11: added row " + wrong, n, x -> x.addRow(last, wrong, 1));
        index("11: factor 0, row " + wrong, n, x -> x.addRow(wrong, last, 0));
        index("32: row " + wrong, n, x -> x.residualLow(wrong));
        index("33: row " + wrong, n, x -> x.residualHigh(wrong));
    }

    /** 13 to 16, 25 to 27: "if there is no such component". */
    private static void noSuchComponent(int n, int wrong) {
        index("13: component " + wrong, n, x -> x.lowNumerator(wrong));
        index("14: component " + wrong, n, x -> x.lowDenominator(wrong));
        index("15: component " + wrong, n, x -> x.highNumerator(wrong));
        index("16: component " + wrong, n, x -> x.highDenominator(wrong));
        index("25: component " + wrong, n, x -> x.setBox(wrong, 0, 0));
        index("26: component " + wrong, n, x -> x.boxLow(wrong));
        index("27: component " + wrong, n, x -> x.boxHigh(wrong));
    }

    /** "If several exceptions apply, the one that is named first is thrown." */
    private static void indexComesBeforeArgument(int n, int wrong) {
        index("4: row " + wrong + " and value 100", n, x -> x.setCoefficient(wrong, 0, 100));
        index("4: column " + wrong + " and value -100", n, x -> x.setCoefficient(0, wrong, -100));
        index("6: row " + wrong + " and 1 to 0", n, x -> x.setRight(wrong, 1, 0));
        index("6: row " + wrong + " and -1000", n, x -> x.setRight(wrong, -1000, 0));
        index("6: row " + wrong + " and 1000", n, x -> x.setRight(wrong, 0, 1000));
        index("9: row " + wrong + " and value 51", n, x -> x.setSpread(wrong, 0, 51));
        index("9: column " + wrong + " and value -1", n, x -> x.setSpread(0, wrong, -1));
        index("11: row " + wrong + " and factor 100", n, x -> x.addRow(wrong, 0, 100));
        index("11: added row " + wrong + " and factor -100", n, x -> x.addRow(0, wrong, -100));
        index("11: row " + wrong + " to itself", n, x -> x.addRow(wrong, wrong, 1));
        index("11: row " + wrong + " and sums that leave the range", n, x -> x.addRow(wrong, 0, 99));
        index("11: added row " + wrong + " and sums that leave the range", n, x -> x.addRow(0, wrong, 99));
        index("25: component " + wrong + " and 1 to 0", n, x -> x.setBox(wrong, 1, 0));
        index("25: component " + wrong + ", too small", n, x -> x.setBox(wrong, -MOST_BOX - 1, 0));
        index("25: component " + wrong + ", too great", n, x -> x.setBox(wrong, 0, MOST_BOX + 1));
    }

    /** "All components are numbered from 0": none from 0 to n - 1 is refused. */
    private static void everyPlaceIsTaken(int n) {
        for (int i = 0; i < n; i++) {
            IntervalSolver x = State.filled(n);
            for (int j = 0; j < n; j++) {
                CHECK.due("4: taken", x.setCoefficient(i, j, x.coefficient(i, j)), x.coefficient(i, j));
                CHECK.due("9: taken", x.setSpread(i, j, 50), 1 + 5 * i + j);
                CHECK.due("17, 18: taken", x.inverseDenominator(i, j) > 0 && x.inverseNumerator(i, j) != 0, true);
                CHECK.due("10: taken", x.swapRows(i, j), i != j);
                CHECK.due("10: taken back", x.swapRows(j, i), i != j);
            }
            CHECK.due("7: taken", x.rightLow(i), -10 * i - 1);
            CHECK.due("8: taken", x.rightHigh(i), 20 * i + 2);
            CHECK.due("6: taken", x.setRight(i, 0, 0), true);
            CHECK.due("13 to 16: taken", x.lowDenominator(i) > 0 && x.lowNumerator(i) <= x.highNumerator(i)
                    && x.highDenominator(i) > 0, true);
            CHECK.due("26: taken", x.boxLow(i), -2000 - i);
            CHECK.due("27: taken", x.boxHigh(i), 3000 + i);
            CHECK.due("25: taken", x.setBox(i, 0, 0), true);
            CHECK.due("32, 33: taken", x.residualLow(i), x.residualHigh(i));
        }
    }

    /** 13 to 18, 20 to 22, 30, 31: "if the determinant is 0". */
    private static void determinantOfZero(int n) {
        for (int i = 0; i < n; i++) {
            int k = i;
            arithmetic("13: component " + i, n, x -> x.lowNumerator(k));
            arithmetic("14: component " + i, n, x -> x.lowDenominator(k));
            arithmetic("15: component " + i, n, x -> x.highNumerator(k));
            arithmetic("16: component " + i, n, x -> x.highDenominator(k));
            arithmetic("17: row " + i, n, x -> x.inverseNumerator(k, n - 1 - k));
            arithmetic("18: row " + i, n, x -> x.inverseDenominator(k, n - 1 - k));
        }
        arithmetic("20: condition()", n, x -> x.condition());
        arithmetic("21: variationNumerator()", n, x -> x.variationNumerator());
        arithmetic("22: variationDenominator()", n, x -> x.variationDenominator());
        arithmetic("30: sharpen()", n, x -> x.sharpen());
        arithmetic("31: isCertified()", n, x -> x.isCertified());
    }

    /** The call is due to throw an ArithmeticException for two systems with the determinant 0. */
    private static void arithmetic(String call, int n, Consumer<IntervalSolver> made) {
        IntervalSolver x = State.singular(n);
        CHECK.arithmetic(call + " of " + n, x, () -> made.accept(x));
        IntervalSolver y = new IntervalSolver();
        y.setSize(n);
        CHECK.arithmetic(call + " of " + n + " rows of 0", y, () -> made.accept(y));
    }

    private static void determinantOfZeroRefusesNothingElse(int n) {
        IntervalSolver x = State.singular(n);
        CHECK.due("12: determinant 0", x.determinant(), 0);
        CHECK.due("19: determinant 0", x.isSolution(0, 0, 0, 0, 0), true);
        CHECK.due("23: determinant 0", x.isSafe(), false);
        CHECK.due("24: determinant 0", x.isDominant(), false);
        CHECK.due("28: determinant 0", x.sweep() >= -1, true);
        CHECK.due("29: determinant 0", Math.abs(x.contract(3)) >= 1, true);
        CHECK.due("32, 33: determinant 0", x.residualLow(n - 1) <= x.residualHigh(n - 1), true);
        CHECK.due("34: determinant 0", x.digest(), x.digest());
    }

    /** 11: of "both are the same row" or the factor, and of sums that leave the range. */
    private static void argumentComesBeforeArithmetic() {
        IntervalSolver x = State.system(State.row(99, -99, -999, 999), State.row(99, -99, -999, 999));
        CHECK.arithmetic("11: the sums leave the range", x, () -> x.addRow(0, 1, 1));
        CHECK.argument("11: row 0 to itself, and too great", x, () -> x.addRow(0, 0, 1));
        CHECK.argument("11: row 1 to itself, and too great", x, () -> x.addRow(1, 1, 99));
        CHECK.argument("11: factor 100, and too great", x, () -> x.addRow(0, 1, 100));
        CHECK.argument("11: factor -100, and too small", x, () -> x.addRow(1, 0, -100));
        CHECK.argument("11: row 0 to itself, factor 100", x, () -> x.addRow(0, 0, 100));
    }

    /** An answer from before the determinant was 0 is not given again, and one after it is. */
    private static void refusedAndMended() {
        IntervalSolver x = State.system(State.row(2, 1, 3, 5), State.row(1, 3, 4, 4));
        CHECK.due("13 to 16: before", State.hull(x, 0), "1/1..11/5");
        CHECK.due("17, 18: before", State.inverse(x, 0, 1), "-1/5");
        x.setCoefficient(0, 1, 6);
        CHECK.due("12: now 0", x.determinant(), 0);
        CHECK.arithmetic("13: now 0", x, () -> x.lowNumerator(0));
        CHECK.arithmetic("17: now 0", x, () -> x.inverseNumerator(0, 1));
        CHECK.arithmetic("20: now 0", x, () -> x.condition());
        CHECK.arithmetic("30: now 0", x, () -> x.sharpen());
        CHECK.due("23: now 0", x.isSafe(), false);
        x.setCoefficient(0, 1, 1);
        CHECK.due("13 to 16: after", State.hull(x, 0), "1/1..11/5");
        CHECK.due("17, 18: after", State.inverse(x, 0, 1), "-1/5");
        CHECK.due("23: after", x.isSafe(), true);
    }
}
