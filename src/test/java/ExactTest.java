/** Promises 12 to 24: the exact answers and the variation. */
public final class ExactTest {
    private static final Check CHECK = new Check();

    public static void main(String[] args) {
        determinant();
        hull();
        hullThrows();
        inverse();
        inverseThrows();
        isSolution();
        condition();
        variation();
        isSafe();
        isDominant();
        fiveRows();
        oneRowAfterFive();
        CHECK.end();
    }

    private static IntervalSolver singular() {
        return State.system(State.row(1, 2, 0, 1), State.row(2, 4, 0, 1));
    }

    /** Its determinant is the product of the diagonal, with a sign by the order of its rows. */
    private static IntervalSolver triangle() {
        return State.system(
                State.row(2, 1, -3, 4, 5, -1, 1),
                State.row(0, 3, 7, -2, 1, 0, 2),
                State.row(0, 0, 5, 6, -8, 3, 3),
                State.row(0, 0, 0, 7, 9, -4, -2),
                State.row(0, 0, 0, 0, 11, 22, 33));
    }

    private static void determinant() {
        CHECK.due("12: of a new object", new IntervalSolver().determinant(), 0);
        CHECK.due("12: of -7", State.system(State.row(-7, 0, 0)).determinant(), -7);
        CHECK.due("12: of a singular matrix", singular().determinant(), 0);
        CHECK.due("12: of 3 rows",
                State.system(State.row(2, -1, 3, 0, 0), State.row(0, 4, 5, 0, 0), State.row(-6, 7, 1, 0, 0))
                        .determinant(), 40);
        IntervalSolver x = triangle();
        CHECK.due("12: of a triangle", x.determinant(), 2310);
        x.swapRows(0, 4);
        CHECK.due("12: of two exchanged rows", x.determinant(), -2310);
        x.swapRows(1, 3);
        x.swapRows(3, 2);
        CHECK.due("12: of four exchanged rows", x.determinant(), -2310);
        x.addRow(0, 1, 1);
        CHECK.due("12: of an added row", x.determinant(), -2310);
        IntervalSolver most = greatest();
        CHECK.due("12: the greatest", most.determinant(), 48L * 99 * 99 * 99 * 99 * 99);
        most.swapRows(0, 1);
        CHECK.due("12: the least", most.determinant(), -48L * 99 * 99 * 99 * 99 * 99);
    }

    /** The greatest determinant of five rows of 1 and -1 is 48. */
    private static IntervalSolver greatest() {
        int a = 99;
        int b = -99;
        return State.system(
                State.row(b, a, a, a, a, -999, 999),
                State.row(a, b, a, a, a, -999, 999),
                State.row(a, a, b, a, a, -999, 999),
                State.row(a, a, a, b, a, -999, 999),
                State.row(a, a, a, a, b, -999, 999));
    }

    private static void hull() {
        IntervalSolver one = State.system(State.row(-6, -4, 9));
        CHECK.due("13 to 16: -6 * x in -4..9", State.hull(one, 0), "-3/2..2/3");
        one.setRight(0, 0, 0);
        CHECK.due("13 to 16: 0 is 0 / 1", State.hull(one, 0), "0/1..0/1");
        one.setRight(0, -12, 0);
        CHECK.due("13 to 16: integers", State.hull(one, 0), "0/1..2/1");
        IntervalSolver x = State.system(State.row(2, 1, 3, 5), State.row(1, 3, 4, 4));
        CHECK.due("13 to 16: component 0", State.hull(x, 0), "1/1..11/5");
        CHECK.due("13 to 16: component 1", State.hull(x, 1), "3/5..1/1");
        x.swapRows(0, 1);
        CHECK.due("13 to 16: component 0, other sign", State.hull(x, 0), "1/1..11/5");
        CHECK.due("13 to 16: component 1, other sign", State.hull(x, 1), "3/5..1/1");
        IntervalSolver five = triangle();
        CHECK.due("13 to 16: component 4", State.hull(five, 4), "2/1..3/1");
        CHECK.due("13 to 16: component 3", State.hull(five, 3), "-31/7..-20/7");
        CHECK.due("13 to 16: component 2", State.hull(five, 2), "253/35..75/7");
        IntervalSolver most = greatest();
        CHECK.due("13 to 16: a great system", State.hull(most, 2), "-111/11..111/11");
    }

    private static void hullThrows() {
        IntervalSolver x = State.system(State.row(2, 1, 3, 5), State.row(1, 3, 4, 4));
        for (int i : State.row(-1, 2, 5, Integer.MAX_VALUE)) {
            CHECK.index("13: lowNumerator(" + i + ")", x, () -> x.lowNumerator(i));
            CHECK.index("14: lowDenominator(" + i + ")", x, () -> x.lowDenominator(i));
            CHECK.index("15: highNumerator(" + i + ")", x, () -> x.highNumerator(i));
            CHECK.index("16: highDenominator(" + i + ")", x, () -> x.highDenominator(i));
        }
        IntervalSolver y = singular();
        for (int i = 0; i < 2; i++) {
            int k = i;
            CHECK.arithmetic("13: lowNumerator, singular", y, () -> y.lowNumerator(k));
            CHECK.arithmetic("14: lowDenominator, singular", y, () -> y.lowDenominator(k));
            CHECK.arithmetic("15: highNumerator, singular", y, () -> y.highNumerator(k));
            CHECK.arithmetic("16: highDenominator, singular", y, () -> y.highDenominator(k));
        }
        CHECK.index("13: no component, singular", y, () -> y.lowNumerator(2));
        CHECK.index("14: no component, singular", y, () -> y.lowDenominator(2));
        CHECK.index("15: no component, singular", y, () -> y.highNumerator(-1));
        CHECK.index("16: no component, singular", y, () -> y.highDenominator(-1));
    }

    private static void inverse() {
        CHECK.due("17, 18: of -6", State.inverse(State.system(State.row(-6, 0, 0)), 0, 0), "-1/6");
        IntervalSolver x = State.system(State.row(4, 2, 0, 0), State.row(3, 1, 0, 0));
        CHECK.due("17, 18: (0, 0)", State.inverse(x, 0, 0), "-1/2");
        CHECK.due("17, 18: (0, 1)", State.inverse(x, 0, 1), "1/1");
        CHECK.due("17, 18: (1, 0)", State.inverse(x, 1, 0), "3/2");
        CHECK.due("17, 18: (1, 1)", State.inverse(x, 1, 1), "-2/1");
        IntervalSolver y = triangle();
        CHECK.due("17, 18: (0, 1) of five", State.inverse(y, 0, 1), "-1/6");
        CHECK.due("17, 18: (1, 0) of five", State.inverse(y, 1, 0), "0/1");
        CHECK.due("17, 18: (3, 4) of five", State.inverse(y, 3, 4), "-9/77");
        CHECK.due("17, 18: (4, 4) of five", State.inverse(y, 4, 4), "1/11");
    }

    private static void inverseThrows() {
        IntervalSolver x = State.system(State.row(4, 2, 0, 0), State.row(3, 1, 0, 0));
        IntervalSolver y = singular();
        for (int i : State.row(-1, 2, 5, Integer.MIN_VALUE)) {
            CHECK.index("17: row " + i, x, () -> x.inverseNumerator(i, 0));
            CHECK.index("17: column " + i, x, () -> x.inverseNumerator(0, i));
            CHECK.index("18: row " + i, x, () -> x.inverseDenominator(i, 0));
            CHECK.index("18: column " + i, x, () -> x.inverseDenominator(0, i));
            CHECK.index("17: row, singular", y, () -> y.inverseNumerator(i, 0));
            CHECK.index("18: column, singular", y, () -> y.inverseDenominator(0, i));
        }
        CHECK.arithmetic("17: singular", y, () -> y.inverseNumerator(0, 0));
        CHECK.arithmetic("18: singular", y, () -> y.inverseDenominator(1, 1));
    }

    private static void isSolution() {
        IntervalSolver x = State.system(State.row(2, 1, 3, 5), State.row(1, 3, 4, 4));
        CHECK.due("19: (1, 1)", x.isSolution(1, 1, 0, 0, 0), true);
        CHECK.due("19: (1, 1), other components", x.isSolution(1, 1, 7, -8, 9), true);
        CHECK.due("19: (1, 2)", x.isSolution(1, 2, 0, 0, 0), false);
        CHECK.due("19: (2, 1)", x.isSolution(2, 1, 0, 0, 0), false);
        IntervalSolver y = singular();
        CHECK.due("19: singular, lower ends", y.isSolution(0, 0, 0, 0, 0), true);
        CHECK.due("19: singular, above", y.isSolution(1, 0, 0, 0, 0), false);
        CHECK.due("19: singular, zeros", y.isSolution(-2, 1, 0, 0, 0), true);
        IntervalSolver one = State.system(State.row(3, -3, 6));
        CHECK.due("19: below", one.isSolution(-2, 0, 0, 0, 0), false);
        CHECK.due("19: lower end", one.isSolution(-1, 0, 0, 0, 0), true);
        CHECK.due("19: upper end", one.isSolution(2, 0, 0, 0, 0), true);
        CHECK.due("19: above", one.isSolution(3, 0, 0, 0, 0), false);
        one.setCoefficient(0, 0, 64);
        CHECK.due("19: 64 * 2^26 is not 0", one.isSolution(1 << 26, 0, 0, 0, 0), false);
        CHECK.due("19: 64 * -2^31 is not 0", one.isSolution(Integer.MIN_VALUE, 0, 0, 0, 0), false);
        IntervalSolver five = triangle();
        five.setRight(0, 132, 132);
        five.setRight(1, 0, 999);
        five.setRight(2, -999, 999);
        five.setRight(3, -999, 999);
        five.setRight(4, -999, 999);
        CHECK.due("19: each of five components", five.isSolution(32, 16, 8, 14, 4), true);
        for (int j = 0; j < 5; j++) {
            int k = j;
            CHECK.due("19: component " + j + " changed", five.isSolution(32 + (k == 0 ? 1 : 0), 16 + (k == 1 ? 1 : 0),
                    8 + (k == 2 ? 1 : 0), 14 + (k == 3 ? 1 : 0), 4 + (k == 4 ? 1 : 0)), false);
        }
    }

    private static void condition() {
        CHECK.due("20: of -7", State.system(State.row(-7, 0, 0)).condition(), 7.0 * (1.0 / 7.0));
        CHECK.due("20: of 49", State.system(State.row(49, 0, 0)).condition(), 49.0 * (1.0 / 49.0));
        IntervalSolver x = State.system(State.row(2, 1, 0, 0), State.row(1, -3, 0, 0));
        CHECK.due("20: of two rows", x.condition(), 4.0 * (4.0 / 7.0));
        x.swapRows(0, 1);
        CHECK.due("20: of exchanged rows", x.condition(), 4.0 * (4.0 / 7.0));
        IntervalSolver y = State.system(State.row(10, 0, 0, 0), State.row(9, -1, 0, 0));
        CHECK.due("20: no reduced fraction", y.condition(), 10.0 * (19.0 / 10.0));
        IntervalSolver z = singular();
        CHECK.arithmetic("20: singular", z, () -> z.condition());
    }

    private static void variation() {
        IntervalSolver x = State.system(State.row(4, 1, 0, 0), State.row(0, -2, 0, 0));
        CHECK.due("21, 22: no spread", State.variation(x), "0/1");
        x.setSpread(0, 0, 8);
        CHECK.due("21, 22: spread (0, 0)", State.variation(x), "1/50");
        x.setSpread(0, 1, 4);
        CHECK.due("21, 22: spread (0, 1)", State.variation(x), "3/100");
        x.setSpread(1, 0, 50);
        CHECK.due("21, 22: spread (1, 0)", State.variation(x), "1/4");
        x.setSpread(1, 0, 2);
        x.setSpread(1, 1, 2);
        CHECK.due("21, 22: the other row", State.variation(x), "7/200");
        IntervalSolver y = singular();
        CHECK.arithmetic("21: singular", y, () -> y.variationNumerator());
        CHECK.arithmetic("22: singular", y, () -> y.variationDenominator());
    }

    private static void isSafe() {
        IntervalSolver x = State.system(State.row(1, 0, 0, 0), State.row(0, -1, 0, 0));
        CHECK.due("23: no spread", x.isSafe(), true);
        x.setSpread(1, 0, 50);
        x.setSpread(1, 1, 49);
        CHECK.due("23: 99 / 100", x.isSafe(), true);
        x.setSpread(1, 1, 50);
        CHECK.due("23: 1", x.isSafe(), false);
        x.setSpread(1, 1, 49);
        x.setSpread(0, 0, 50);
        x.setSpread(0, 1, 50);
        CHECK.due("23: 1 by row 0", x.isSafe(), false);
        x.setCoefficient(0, 0, 2);
        CHECK.due("23: 99 / 100 and 1 / 2", x.isSafe(), true);
        CHECK.due("23: singular", singular().isSafe(), false);
        CHECK.due("23: a new object", new IntervalSolver().isSafe(), false);
    }

    private static void isDominant() {
        CHECK.due("24: a new object", new IntervalSolver().isDominant(), false);
        IntervalSolver zero = State.system(State.row(0, 0, 0));
        zero.setSpread(0, 0, 50);
        CHECK.due("24: 0 less a spread", zero.isDominant(), false);
        IntervalSolver x = State.system(State.row(-4, 2, 1, 0, 0), State.row(1, 9, -3, 0, 0), State.row(0, 0, 1, 0, 0));
        CHECK.due("24: no spread", x.isDominant(), true);
        x.setSpread(0, 0, 49);
        x.setSpread(0, 1, 50);
        CHECK.due("24: by 1 / 100", x.isDominant(), true);
        x.setSpread(0, 2, 1);
        CHECK.due("24: as great as the sum", x.isDominant(), false);
        x.setSpread(0, 0, 48);
        CHECK.due("24: by 1 / 100 again", x.isDominant(), true);
        x.setCoefficient(2, 0, -1);
        CHECK.due("24: the last row", x.isDominant(), false);
        x.setCoefficient(2, 2, 2);
        CHECK.due("24: the last row, mended", x.isDominant(), true);
        x.setCoefficient(2, 0, 2);
        CHECK.due("24: the last row, as great", x.isDominant(), false);
    }

    private static IntervalSolver diagonal() {
        IntervalSolver x = new IntervalSolver();
        x.setSize(5);
        for (int i = 0; i < 5; i++) {
            x.setCoefficient(i, i, i + 1);
            x.setRight(i, 0, 6);
        }
        return x;
    }

    private static void fiveRows() {
        IntervalSolver x = diagonal();
        CHECK.due("20: of a diagonal", x.condition(), 5.0 * (120.0 / 120.0));
        CHECK.due("24: of a diagonal", x.isDominant(), true);
        x.setSpread(4, 0, 30);
        x.setSpread(4, 4, 15);
        CHECK.due("21, 22: of a diagonal", State.variation(x), "9/100");
        x.setSpread(0, 4, 10);
        CHECK.due("21, 22: of a diagonal, row 0", State.variation(x), "1/10");
        CHECK.due("23: of a diagonal", x.isSafe(), true);
        x.setCoefficient(4, 0, 5);
        CHECK.due("24: the last row of five", x.isDominant(), false);
    }

    /** What a larger system has left inside must have no meaning in a smaller one. */
    private static void oneRowAfterFive() {
        IntervalSolver x = diagonal();
        x.setSpread(0, 1, 50);
        x.setSpread(1, 0, 50);
        x.setSpread(1, 1, 50);
        x.condition();
        x.setSize(1);
        x.setCoefficient(0, 0, 2);
        x.setRight(0, 2, 4);
        x.setSpread(0, 0, 10);
        CHECK.due("12: after five rows", x.determinant(), 2);
        CHECK.due("13 to 16: after five rows", State.hull(x, 0), "1/1..2/1");
        CHECK.due("17, 18: after five rows", State.inverse(x, 0, 0), "1/2");
        CHECK.due("19: after five rows", x.isSolution(1, 9, 9, 9, 9), true);
        CHECK.due("20: after five rows", x.condition(), 1.0);
        CHECK.due("21, 22: after five rows", State.variation(x), "1/20");
        CHECK.due("24: after five rows", x.isDominant(), true);
        CHECK.index("17: row 1 after five rows", x, () -> x.inverseNumerator(1, 0));
    }
}
