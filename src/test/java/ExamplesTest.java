/** The four examples of the document's description, call by call. */
public final class ExamplesTest {
    private static final Check CHECK = new Check();

    public static void main(String[] args) {
        twoEquations();
        sweeps();
        spreads();
        singular();
        CHECK.end();
    }

    private static void twoEquations() {
        IntervalSolver x = new IntervalSolver();
        CHECK.due("1: setSize(2)", x.setSize(2), 2);
        CHECK.due("1: setCoefficient(0, 0, 2)", x.setCoefficient(0, 0, 2), 0);
        CHECK.due("1: setCoefficient(0, 1, 1)", x.setCoefficient(0, 1, 1), 0);
        CHECK.due("1: setCoefficient(1, 0, 1)", x.setCoefficient(1, 0, 1), 0);
        CHECK.due("1: setCoefficient(1, 1, 3)", x.setCoefficient(1, 1, 3), 0);
        CHECK.due("1: setRight(0, 3, 5)", x.setRight(0, 3, 5), true);
        CHECK.due("1: setRight(1, 4, 4)", x.setRight(1, 4, 4), true);
        CHECK.due("1: determinant()", x.determinant(), 5);
        CHECK.due("1: lowNumerator(0)", x.lowNumerator(0), 1);
        CHECK.due("1: lowDenominator(0)", x.lowDenominator(0), 1);
        CHECK.due("1: highNumerator(0)", x.highNumerator(0), 11);
        CHECK.due("1: highDenominator(0)", x.highDenominator(0), 5);
        CHECK.due("1: isSolution(1, 1, 0, 0, 0)", x.isSolution(1, 1, 0, 0, 0), true);
    }

    private static void sweeps() {
        IntervalSolver x = new IntervalSolver();
        CHECK.due("2: setCoefficient(0, 0, 3)", x.setCoefficient(0, 0, 3), 0);
        CHECK.due("2: setRight(0, 1, 2)", x.setRight(0, 1, 2), true);
        CHECK.due("2: sweep()", x.sweep(), 1);
        CHECK.due("2: boxLow(0)", x.boxLow(0), 341);
        CHECK.due("2: boxHigh(0)", x.boxHigh(0), 683);
        CHECK.due("2: isCertified()", x.isCertified(), true);
        CHECK.due("2: setBox(0, 700, 800)", x.setBox(0, 700, 800), true);
        CHECK.due("2: sweep() again", x.sweep(), -1);
        CHECK.due("2: boxHigh(0) again", x.boxHigh(0), 800);
    }

    private static void spreads() {
        IntervalSolver x = new IntervalSolver();
        CHECK.due("3: setSize(2)", x.setSize(2), 2);
        CHECK.due("3: setCoefficient(0, 0, 4)", x.setCoefficient(0, 0, 4), 0);
        CHECK.due("3: setCoefficient(1, 1, 2)", x.setCoefficient(1, 1, 2), 0);
        CHECK.due("3: setCoefficient(0, 1, 1)", x.setCoefficient(0, 1, 1), 0);
        CHECK.due("3: setSpread(1, 0, 50)", x.setSpread(1, 0, 50), 0);
        CHECK.due("3: variationNumerator()", x.variationNumerator(), 1);
        CHECK.due("3: variationDenominator()", x.variationDenominator(), 4);
        CHECK.due("3: isSafe()", x.isSafe(), true);
        CHECK.due("3: isDominant()", x.isDominant(), true);
    }

    private static void singular() {
        IntervalSolver x = new IntervalSolver();
        CHECK.due("4: setSize(2)", x.setSize(2), 2);
        CHECK.due("4: setCoefficient(0, 0, 1)", x.setCoefficient(0, 0, 1), 0);
        CHECK.due("4: setCoefficient(1, 0, 2)", x.setCoefficient(1, 0, 2), 0);
        CHECK.due("4: determinant()", x.determinant(), 0);
        CHECK.arithmetic("4: lowNumerator(0)", x, () -> x.lowNumerator(0));
        CHECK.due("4: setRight(0, 1, 1)", x.setRight(0, 1, 1), true);
        CHECK.due("4: addRow(1, 0, -2)", x.addRow(1, 0, -2), 1);
        CHECK.due("4: coefficient(1, 0)", x.coefficient(1, 0), 0);
        CHECK.due("4: rightLow(1)", x.rightLow(1), -2);
        CHECK.argument("4: setSize(9)", x, () -> x.setSize(9));
    }
}
