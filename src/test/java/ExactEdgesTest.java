/** The edges of promises 12 to 24: a method for each sentence of the document that names one. */
public final class ExactEdgesTest {
    private static final Check CHECK = new Check();
    private static final long A = 99;

    public static void main(String[] args) {
        determinantOfZero();
        greatestDeterminants();
        hullOfPoints();
        hullOfZero();
        hullIsReduced();
        denominatorsArePositive();
        greatestHulls();
        inverseEntries();
        solutionEnds();
        solutionInEachRow();
        componentsFromN();
        solutionsDoNotWrap();
        conditionIsRoundedTwice();
        conditionOfManyRows();
        variationOfZero();
        variationOfFourSpreads();
        variationOfGreatestSpreads();
        variationTakesTheGreatestRow();
        safeBelowOne();
        safeOfDeterminantZero();
        dominantByOneHundredth();
        dominantInEachRow();
        dominantDiagonal();
        CHECK.end();
    }

    private static IntervalSolver sized(int n) {
        IntervalSolver x = new IntervalSolver();
        x.setSize(n);
        return x;
    }

    /** All coefficients are a, but those of the diagonal, which are -a. */
    private static IntervalSolver crossed(int n, int a) {
        IntervalSolver x = sized(n);
        for (int i = 0; i < n; i++) {
            for (int j = 0; j < n; j++) {
                x.setCoefficient(i, j, i == j ? -a : a);
            }
            x.setRight(i, -999, 999);
        }
        return x;
    }

    private static IntervalSolver diagonal(int n, int a) {
        IntervalSolver x = sized(n);
        for (int i = 0; i < n; i++) {
            x.setCoefficient(i, i, a);
        }
        return x;
    }

    /** 12: "If the determinant of the coefficients is not 0": where it is 0. */
    private static void determinantOfZero() {
        for (int n = 1; n <= 5; n++) {
            CHECK.due("12: nothing but 0", sized(n).determinant(), 0);
            CHECK.due("12: a multiple of a row", State.singular(n).determinant(), 0);
            for (int i = 0; i < n; i++) {
                IntervalSolver row = State.filled(n);
                IntervalSolver column = State.filled(n);
                CHECK.due("12: of a filled system", row.determinant() != 0, true);
                for (int j = 0; j < n; j++) {
                    row.setCoefficient(i, j, 0);
                    column.setCoefficient(j, i, 0);
                }
                CHECK.due("12: a row of 0", row.determinant(), 0);
                CHECK.due("12: a column of 0", column.determinant(), 0);
            }
        }
        IntervalSolver two = crossed(2, 99);
        CHECK.due("12: great products that cancel", two.determinant(), 0);
        two.setCoefficient(0, 0, -98);
        CHECK.due("12: beside 0", two.determinant(), -99);
    }

    /** 12: the greatest and the least that coefficients from -99 to 99 give. */
    private static void greatestDeterminants() {
        CHECK.due("12: greatest of 1", State.system(State.row(99, 0, 0)).determinant(), A);
        CHECK.due("12: least of 1", State.system(State.row(-99, 0, 0)).determinant(), -A);
        IntervalSolver two = State.system(State.row(99, -99, 0, 0), State.row(99, 99, 0, 0));
        CHECK.due("12: greatest of 2", two.determinant(), 2 * A * A);
        two.swapRows(0, 1);
        CHECK.due("12: least of 2", two.determinant(), -2 * A * A);
        CHECK.due("12: greatest of 3", crossed(3, 99).determinant(), 4 * A * A * A);
        CHECK.due("12: least of 3", crossed(3, -99).determinant(), -4 * A * A * A);
        IntervalSolver four = crossed(4, 99);
        CHECK.due("12: least of 4", four.determinant(), -16 * A * A * A * A);
        four.swapRows(1, 3);
        CHECK.due("12: greatest of 4", four.determinant(), 16 * A * A * A * A);
        CHECK.due("12: greatest of 5", crossed(5, 99).determinant(), 48 * A * A * A * A * A);
        CHECK.due("12: least of 5", crossed(5, -99).determinant(), -48 * A * A * A * A * A);
        CHECK.due("12: 1", State.steep().determinant(), 1);
    }

    /** 13 to 16: right sides that are points have hulls that are points. */
    private static void hullOfPoints() {
        IntervalSolver x = State.system(State.row(3, 1, 7, 7), State.row(-1, 2, -5, -5));
        CHECK.due("13 to 16: point 0", State.hull(x, 0), "19/7..19/7");
        CHECK.due("13 to 16: point 1", State.hull(x, 1), "-8/7..-8/7");
        x.setRight(0, 6, 7);
        CHECK.due("13 to 16: no point any more", State.hull(x, 0), "17/7..19/7");
    }

    /** 13 to 16: "(0 is 0 / 1)". */
    private static void hullOfZero() {
        for (int n = 1; n <= 5; n++) {
            IntervalSolver x = crossed(n, 99);
            if (n == 2) {
                x.setCoefficient(0, 0, 99);
            }
            for (int i = 0; i < n; i++) {
                x.setRight(i, 0, 0);
            }
            for (int i = 0; i < n; i++) {
                CHECK.due("13 to 16: right sides of 0", State.hull(x, i), "0/1..0/1");
            }
        }
        IntervalSolver y = State.system(State.row(-6, 0, 9));
        CHECK.due("13 to 16: upper end 0", State.hull(y, 0), "-3/2..0/1");
        y.setRight(0, -9, 0);
        CHECK.due("13 to 16: lower end 0", State.hull(y, 0), "0/1..3/2");
    }

    /** 13 to 18: "Fractions are reduced". */
    private static void hullIsReduced() {
        IntervalSolver x = State.system(State.row(98, -980, 700));
        CHECK.due("13 to 16: by 98 and by 14", State.hull(x, 0), "-10/1..50/7");
        x.setRight(0, 97, 99);
        CHECK.due("13 to 16: already reduced", State.hull(x, 0), "97/98..99/98");
        CHECK.due("17, 18: already reduced", State.inverse(x, 0, 0), "1/98");
        IntervalSolver y = diagonal(5, 6);
        y.setRight(4, -4, 10);
        CHECK.due("13 to 16: determinant 6^5", State.hull(y, 4), "-2/3..5/3");
        CHECK.due("17, 18: determinant 6^5", State.inverse(y, 4, 4), "1/6");
    }

    /** 13 to 18: "with a positive denominator": determinants and entries of either sign. */
    private static void denominatorsArePositive() {
        for (int n = 1; n <= 5; n++) {
            for (int sign = -1; sign <= 1; sign += 2) {
                IntervalSolver x = State.filled(n);
                for (int j = 0; j < n; j++) {
                    x.setCoefficient(0, j, sign * x.coefficient(0, j));
                }
                for (int i = 0; i < n; i++) {
                    CHECK.due("14: positive", x.lowDenominator(i) > 0, true);
                    CHECK.due("16: positive", x.highDenominator(i) > 0, true);
                    CHECK.due("18: positive", x.inverseDenominator(i, 0) > 0, true);
                    CHECK.due("18: positive", x.inverseDenominator(n - 1, i) > 0, true);
                }
                CHECK.due("22: positive", x.variationDenominator() > 0 && x.variationNumerator() > 0, true);
            }
        }
        IntervalSolver one = State.system(State.row(-7, -3, 5));
        CHECK.due("13 to 16: by -7", State.hull(one, 0), "-5/7..3/7");
        CHECK.due("17, 18: by -7", State.inverse(one, 0, 0), "-1/7");
    }

    /** 13 to 16: the right sides at their edges, and ends far beyond 32 bits. */
    private static void greatestHulls() {
        CHECK.due("13 to 16: 1 * x", State.hull(State.system(State.row(1, -999, 999)), 0), "-999/1..999/1");
        CHECK.due("13 to 16: -1 * x", State.hull(State.system(State.row(-1, -999, -999)), 0), "999/1..999/1");
        CHECK.due("13 to 16: 99 * x", State.hull(State.system(State.row(99, -999, 998)), 0), "-111/11..998/99");
        IntervalSolver x = State.steep();
        CHECK.due("13 to 16: steep 0", State.hull(x, 0), "-976208245569/1..976208245569/1");
        CHECK.due("13 to 16: steep 1", State.hull(x, 1), "-425746059768/1..425746059768/1");
        CHECK.due("13 to 16: steep 2", State.hull(x, 2), "-1365669449514/1..1365669449514/1");
        CHECK.due("13 to 16: steep 3", State.hull(x, 3), "-3133831032/1..3133831032/1");
        CHECK.due("13 to 16: steep 4", State.hull(x, 4), "-81840345732/1..81840345732/1");
    }

    /** 17, 18: entries that are 0, the least one and very great ones. */
    private static void inverseEntries() {
        IntervalSolver x = diagonal(5, -99);
        for (int place = 0; place < 25; place++) {
            String due = place % 6 == 0 ? "-1/99" : "0/1";
            CHECK.due("17, 18: of a diagonal", State.inverse(x, place / 5, place % 5), due);
        }
        IntervalSolver y = State.steep();
        CHECK.due("17, 18: steep (2, 1)", State.inverse(y, 2, 1), "432371424/1");
        CHECK.due("17, 18: steep (0, 1)", State.inverse(y, 0, 1), "-309067871/1");
        CHECK.due("17, 18: steep (3, 4)", State.inverse(y, 3, 4), "-823577/1");
        y.swapRows(1, 4);
        CHECK.due("17, 18: determinant -1", y.determinant(), -1);
        CHECK.due("17, 18: steep (2, 4)", State.inverse(y, 2, 4), "432371424/1");
    }

    /** 19: a number "from b_i to c_i": both ends are in, the next ones are out. */
    private static void solutionEnds() {
        IntervalSolver x = State.system(State.row(1, -999, 999));
        CHECK.due("19: -1000", x.isSolution(-1000, 0, 0, 0, 0), false);
        CHECK.due("19: -999", x.isSolution(-999, 0, 0, 0, 0), true);
        CHECK.due("19: 999", x.isSolution(999, 0, 0, 0, 0), true);
        CHECK.due("19: 1000", x.isSolution(1000, 0, 0, 0, 0), false);
        x.setRight(0, 5, 5);
        CHECK.due("19: below a point", x.isSolution(4, 0, 0, 0, 0), false);
        CHECK.due("19: a point", x.isSolution(5, 0, 0, 0, 0), true);
        CHECK.due("19: above a point", x.isSolution(6, 0, 0, 0, 0), false);
        x.setCoefficient(0, 0, 0);
        CHECK.due("19: 0 is not 5", x.isSolution(5, 0, 0, 0, 0), false);
        x.setRight(0, 0, 5);
        CHECK.due("19: 0 is from 0 to 5", x.isSolution(77, 0, 0, 0, 0), true);
    }

    /** 19: each row by itself makes it none, on either side. */
    private static void solutionInEachRow() {
        for (int n = 1; n <= 5; n++) {
            for (int i = 0; i < n; i++) {
                IntervalSolver x = diagonal(n, 1);
                CHECK.due("19: all rows", x.isSolution(0, 0, 0, 0, 0), true);
                x.setRight(i, 1, 9);
                CHECK.due("19: below in row " + i, x.isSolution(0, 0, 0, 0, 0), false);
                x.setRight(i, -9, -1);
                CHECK.due("19: above in row " + i, x.isSolution(0, 0, 0, 0, 0), false);
            }
        }
    }

    /** 19: "components from n on have no meaning". */
    private static void componentsFromN() {
        int[] ends = {Integer.MIN_VALUE, -1, 1, Integer.MAX_VALUE};
        for (int n = 1; n <= 5; n++) {
            for (int end : ends) {
                int[] v = new int[5];
                java.util.Arrays.fill(v, n, 5, end);
                IntervalSolver x = State.filled(n);
                CHECK.due("19: " + n, x.isSolution(v[0], v[1], v[2], v[3], v[4]), true);
                v[n - 1] = end;
                CHECK.due("19: the last one of " + n, x.isSolution(v[0], v[1], v[2], v[3], v[4]), false);
            }
        }
    }

    /** 19: the greatest and the least integers, whose sums wrap around in 32 bits. */
    private static void solutionsDoNotWrap() {
        int most = Integer.MAX_VALUE;
        int least = Integer.MIN_VALUE;
        IntervalSolver x = State.system(
                State.row(1, 1, 1, 1, 1, 0, 0),
                State.row(0, 0, 0, 0, 0, 0, 0),
                State.row(0, 0, 0, 0, 0, 0, 0),
                State.row(0, 0, 0, 0, 0, 0, 0),
                State.row(0, 0, 0, 0, 0, 0, 0));
        CHECK.due("19: 4 * 2^30", x.isSolution(1 << 30, 1 << 30, 1 << 30, 1 << 30, 0), false);
        CHECK.due("19: 2 * -2^31", x.isSolution(least, least, 0, 0, 0), false);
        CHECK.due("19: cancelled", x.isSolution(most, least, 1, most, -most), true);
        for (int j = 0; j < 5; j++) {
            x.setCoefficient(0, j, j % 2 == 0 ? 99 : -99);
        }
        CHECK.due("19: 99 * greatest, cancelled", x.isSolution(most, most, least, least, 0), true);
        CHECK.due("19: 99 * greatest, nearly", x.isSolution(most, most, least, least, 1), false);
        x.setRight(0, 99, 99);
        CHECK.due("19: 99 * greatest, and 99", x.isSolution(most, most, least, least, 1), true);
        CHECK.due("19: 5 * 99 * greatest", x.isSolution(most, least, most, least, most), false);
    }

    /** 20: "with both operations rounded to the nearest double". */
    private static void conditionIsRoundedTwice() {
        CHECK.due("20: 49", diagonal(1, 49).condition(), 0.9999999999999999);
        CHECK.due("20: 98", diagonal(1, -98).condition(), 0.9999999999999999);
        CHECK.due("20: 1", diagonal(1, 1).condition(), 1.0);
        IntervalSolver x = State.system(State.row(10, 0, 0, 0), State.row(9, -1, 0, 0));
        CHECK.due("20: 19 / 10", x.condition(), 10.0 * 1.9);
        CHECK.due("20: steep", State.steep().condition(), 409.0 * 1367036486.0);
        CHECK.due("20: p and q beyond 32 bits", crossed(5, 99).condition(), 495.0 * (1.0 / 99.0));
    }

    /** 20: the greatest sums are those of any row, with absolute values. */
    private static void conditionOfManyRows() {
        for (int n = 1; n <= 5; n++) {
            for (int i = 0; i < n; i++) {
                IntervalSolver x = diagonal(n, 2);
                x.setCoefficient(i, i, -8);
                CHECK.due("20: row " + i + " of " + n, x.condition(), n == 1 ? 8.0 * (1.0 / 8.0) : 8.0 * 0.5);
            }
        }
        IntervalSolver y = State.system(State.row(1, -3, 0, 0), State.row(0, 1, 0, 0));
        CHECK.due("20: absolute values", y.condition(), 16.0);
    }

    /** 21, 22: no spread at all gives 0 / 1. */
    private static void variationOfZero() {
        for (int n = 1; n <= 5; n++) {
            IntervalSolver x = diagonal(n, -99);
            CHECK.due("21, 22: no spread, " + n, State.variation(x), "0/1");
            x.setSpread(n - 1, 0, 1);
            CHECK.due("21, 22: the least, " + n, State.variation(x), "1/9900");
        }
    }

    /** 21, 22: each entry of the inverse meets the spreads of its own row. */
    private static void variationOfFourSpreads() {
        IntervalSolver x = State.system(State.row(2, 1, 0, 0), State.row(1, 3, 0, 0));
        x.setSpread(0, 0, 10);
        x.setSpread(0, 1, 20);
        x.setSpread(1, 0, 30);
        x.setSpread(1, 1, 40);
        CHECK.due("21, 22: row 1 of the inverse is the greatest", State.variation(x), "17/50");
        x.swapRows(0, 1);
        CHECK.due("21, 22: with exchanged rows", State.variation(x), "17/50");
        x.setSpread(0, 0, 0);
        CHECK.due("21, 22: row 0 of the inverse is the greatest", State.variation(x), "13/50");
    }

    private static void variationOfGreatestSpreads() {
        IntervalSolver x = diagonal(5, 1);
        IntervalSolver y = State.steep();
        for (int place = 0; place < 25; place++) {
            x.setSpread(place / 5, place % 5, 50);
            y.setSpread(place / 5, place % 5, 50);
        }
        CHECK.due("21, 22: of the unit matrix", State.variation(x), "5/2");
        CHECK.due("21, 22: steep", State.variation(y), "3417591215/1");
    }

    /** 21, 22: "the greatest sum, over the rows i": each row has it once. */
    private static void variationTakesTheGreatestRow() {
        for (int i = 0; i < 5; i++) {
            IntervalSolver x = diagonal(5, i % 2 == 0 ? 3 : -3);
            for (int k = 0; k < 5; k++) {
                x.setSpread(k, (k + 2) % 5, 10);
            }
            CHECK.due("21, 22: all alike", State.variation(x), "1/30");
            x.setSpread(i, 4, 50);
            CHECK.due("21, 22: row " + i, State.variation(x), (i + 2) % 5 == 4 ? "1/6" : "1/5");
        }
    }

    /** 23: "Tells whether the variation is less than 1." */
    private static void safeBelowOne() {
        IntervalSolver x = diagonal(3, 1);
        x.setSpread(1, 0, 50);
        x.setSpread(1, 2, 49);
        CHECK.due("23: 99 / 100", State.variation(x) + " " + x.isSafe(), "99/100 true");
        x.setSpread(1, 2, 50);
        CHECK.due("23: 1", State.variation(x) + " " + x.isSafe(), "1/1 false");
        x.setSpread(1, 1, 1);
        CHECK.due("23: 101 / 100", State.variation(x) + " " + x.isSafe(), "101/100 false");
        x.setCoefficient(1, 1, 2);
        CHECK.due("23: 101 / 200", State.variation(x) + " " + x.isSafe(), "101/200 true");
    }

    /** 23: "false if the determinant is 0". */
    private static void safeOfDeterminantZero() {
        for (int n = 1; n <= 5; n++) {
            CHECK.due("23: rows of 0", sized(n).isSafe(), false);
            CHECK.due("23: determinant 0", State.singular(n).isSafe(), false);
            CHECK.due("23: no spread", diagonal(n, -1).isSafe(), true);
        }
    }

    /** 24: "is greater than the sum": not where they are equal. */
    private static void dominantByOneHundredth() {
        IntervalSolver x = State.system(State.row(-3, 2, 0, 0), State.row(-2, 3, 0, 0));
        x.setSpread(0, 0, 50);
        x.setSpread(0, 1, 49);
        CHECK.due("24: by 1 / 100", x.isDominant(), true);
        x.setSpread(0, 1, 50);
        CHECK.due("24: equal", x.isDominant(), false);
        x.setCoefficient(0, 0, 4);
        CHECK.due("24: by 1", x.isDominant(), true);
        x.setSpread(1, 1, 50);
        x.setSpread(1, 0, 50);
        CHECK.due("24: equal in row 1", x.isDominant(), false);
        x.setSpread(1, 1, 49);
        CHECK.due("24: by 1 / 100 in row 1", x.isDominant(), true);
        IntervalSolver y = State.system(State.row(2, -2, 0, 0), State.row(0, 1, 0, 0));
        CHECK.due("24: equal without spreads", y.isDominant(), false);
    }

    /** 24: "in each row i". */
    private static void dominantInEachRow() {
        for (int n = 1; n <= 5; n++) {
            for (int i = 0; i < n; i++) {
                IntervalSolver x = diagonal(n, 1);
                CHECK.due("24: the unit matrix", x.isDominant(), true);
                x.setCoefficient(i, i, 0);
                CHECK.due("24: 0 in row " + i + " of " + n, x.isDominant(), false);
                x.setSpread(i, i, 50);
                CHECK.due("24: 0 with a spread in row " + i + " of " + n, x.isDominant(), false);
                x.setCoefficient(i, i, -1);
                CHECK.due("24: -1 with a spread in row " + i + " of " + n, x.isDominant(), true);
            }
        }
        IntervalSolver y = diagonal(5, 99);
        for (int j = 0; j < 4; j++) {
            y.setCoefficient(4, j, j % 2 == 0 ? 24 : -24);
            y.setSpread(4, j, 50);
        }
        y.setSpread(4, 4, 50);
        CHECK.due("24: 98.5 and 98", y.isDominant(), true);
        y.setCoefficient(4, 0, 25);
        CHECK.due("24: 98.5 and 99", y.isDominant(), false);
    }

    /** 24: the spread of the diagonal takes away, and those beside it add. */
    private static void dominantDiagonal() {
        IntervalSolver x = State.system(State.row(1, 0, 0, 0), State.row(0, -1, 0, 0));
        x.setSpread(0, 1, 50);
        CHECK.due("24: 1 and 1 / 2", x.isDominant(), true);
        x.setSpread(0, 0, 49);
        CHECK.due("24: 51 / 100 and 1 / 2", x.isDominant(), true);
        x.setSpread(0, 0, 50);
        CHECK.due("24: 1 / 2 and 1 / 2", x.isDominant(), false);
        x.setSpread(0, 0, 0);
        x.setSpread(1, 0, 50);
        x.setSpread(1, 1, 50);
        CHECK.due("24: 1 / 2 and 1 / 2 below 0", x.isDominant(), false);
    }
}
