/** The edges of promises 1 to 11: a method for each sentence of the document that names one. */
public final class SystemEdgesTest {
    private static final Check CHECK = new Check();
    private static final int MOST_BOX = 1000000000;

    public static void main(String[] args) {
        newObject();
        sizes();
        newSystem();
        coefficientRange();
        coefficientAtEveryPlace();
        rightRange();
        rightWasAnother();
        spreadRange();
        spreadAtEveryPlace();
        spreadIsUsedByVariationAndDominanceAlone();
        swapOfEachPair();
        addedCoefficients();
        addedRightSides();
        addedFactors();
        addedRowIsTheSame();
        addedIntervals();
        addedChangesAreCounted();
        addedAlone();
        CHECK.end();
    }

    /** 1: "Creates a system with n = 1, as after setSize(1)." */
    private static void newObject() {
        IntervalSolver x = new IntervalSolver();
        CHECK.due("1: size", x.size(), 1);
        isEmpty("1: new object", x, 1);
        IntervalSolver y = new IntervalSolver();
        CHECK.index("1: row 1", y, () -> y.coefficient(1, 0));
        CHECK.index("1: column 1", y, () -> y.coefficient(0, 1));
        CHECK.index("1: component 1", y, () -> y.boxLow(1));
    }

    /** 2: "n from 1 to 5", "if n is not 1 to 5". */
    private static void sizes() {
        for (int n = 1; n <= 5; n++) {
            IntervalSolver x = new IntervalSolver();
            CHECK.due("2: setSize(" + n + ")", x.setSize(n), n);
            CHECK.due("3: size() after setSize(" + n + ")", x.size(), n);
        }
        for (int wrong : State.row(0, 6, -1, -5, 32, Integer.MIN_VALUE, Integer.MAX_VALUE)) {
            IntervalSolver x = State.filled(3);
            CHECK.argument("2: setSize(" + wrong + ")", x, () -> x.setSize(wrong));
            CHECK.due("3: size() after the refused setSize(" + wrong + ")", x.size(), 3);
        }
    }

    /** 2: "All coefficients, right sides and spreads are 0 ..., all intervals ... from -1000000000 to 1000000000." */
    private static void newSystem() {
        for (int before = 1; before <= 5; before++) {
            for (int n = 1; n <= 5; n++) {
                IntervalSolver x = State.filled(before);
                x.setSize(n);
                isEmpty("2: " + n + " rows after " + before, x, n);
            }
        }
        IntervalSolver x = State.filled(5);
        x.setSize(2);
        x.setSize(5);
        isEmpty("2: 5 rows after 2 after 5", x, 5);
    }

    private static void isEmpty(String where, IntervalSolver x, int n) {
        for (int i = 0; i < n; i++) {
            for (int j = 0; j < n; j++) {
                CHECK.due(where + ", coefficient", x.coefficient(i, j), 0);
                CHECK.due(where + ", spread", x.setSpread(i, j, 0), 0);
            }
            CHECK.due(where + ", rightLow", x.rightLow(i), 0);
            CHECK.due(where + ", rightHigh", x.rightHigh(i), 0);
            CHECK.due(where + ", boxLow", x.boxLow(i), -MOST_BOX);
            CHECK.due(where + ", boxHigh", x.boxHigh(i), MOST_BOX);
        }
    }

    /** 4: "integers from -99 to 99", "if value is not -99 to 99". */
    private static void coefficientRange() {
        IntervalSolver x = State.filled(2);
        CHECK.due("4: the greatest", x.setCoefficient(1, 0, 99), 2);
        CHECK.due("5: the greatest", x.coefficient(1, 0), 99);
        CHECK.due("4: the least", x.setCoefficient(1, 0, -99), 99);
        CHECK.due("5: the least", x.coefficient(1, 0), -99);
        CHECK.due("4: the least again", x.setCoefficient(1, 0, -99), -99);
        for (int wrong : State.row(100, -100, 355, -355, Integer.MIN_VALUE, Integer.MAX_VALUE)) {
            CHECK.argument("4: value " + wrong, x, () -> x.setCoefficient(1, 0, wrong));
        }
        CHECK.due("5: after refused values", x.coefficient(1, 0), -99);
    }

    /** 4, 5: "All components are numbered from 0": the places from (0, 0) to (n - 1, n - 1). */
    private static void coefficientAtEveryPlace() {
        for (int n = 1; n <= 5; n++) {
            IntervalSolver x = new IntervalSolver();
            x.setSize(n);
            for (int place = 0; place < n * n; place++) {
                CHECK.due("4: place " + place, x.setCoefficient(place / n, place % n, place - 12), 0);
            }
            for (int place = 0; place < n * n; place++) {
                CHECK.due("5: place " + place, x.coefficient(place / n, place % n), place - 12);
            }
        }
    }

    /** 6: "from -999 to 999 and b_i not greater than c_i", "or low is greater than high". */
    private static void rightRange() {
        IntervalSolver x = State.filled(2);
        int[][] taken = {{-999, 999}, {-999, -999}, {999, 999}, {-999, -998}, {998, 999}, {0, 0}, {-1, 1}};
        for (int[] right : taken) {
            CHECK.due("6: taken", x.setRight(1, right[0], right[1]), true);
            CHECK.due("7: taken", x.rightLow(1), right[0]);
            CHECK.due("8: taken", x.rightHigh(1), right[1]);
        }
        int[][] refused = {
            {-1000, 999}, {-999, 1000}, {-1000, -1000}, {1000, 1000}, {-1000, -999}, {999, 1000}, {1, 0},
            {0, -1}, {999, -999}, {-998, -999}, {999, 998}, {1000, -1000},
            {Integer.MIN_VALUE, 0}, {0, Integer.MAX_VALUE}, {Integer.MIN_VALUE, Integer.MIN_VALUE}};
        for (int[] right : refused) {
            CHECK.argument("6: " + right[0] + " to " + right[1], x, () -> x.setRight(1, right[0], right[1]));
        }
        CHECK.due("7: after refused ends", x.rightLow(1), -1);
        CHECK.due("8: after refused ends", x.rightHigh(1), 1);
    }

    /** 6: "whether the right side was another one before". */
    private static void rightWasAnother() {
        IntervalSolver x = new IntervalSolver();
        CHECK.due("6: 0 to 0 in a new object", x.setRight(0, 0, 0), false);
        CHECK.due("6: the upper end alone", x.setRight(0, 0, 1), true);
        CHECK.due("6: the lower end alone", x.setRight(0, -1, 1), true);
        CHECK.due("6: the same", x.setRight(0, -1, 1), false);
        CHECK.due("6: moved by 2", x.setRight(0, 1, 3), true);
        IntervalSolver y = State.filled(5);
        for (int i = 0; i < 5; i++) {
            CHECK.due("6: as filled, row " + i, y.setRight(i, -10 * i - 1, 20 * i + 2), false);
            CHECK.due("7: as filled, row " + i, y.rightLow(i), -10 * i - 1);
            CHECK.due("8: as filled, row " + i, y.rightHigh(i), 20 * i + 2);
        }
    }

    /** 9: "The spread ... is an integer r_ij from 0 to 50", "if value is not 0 to 50". */
    private static void spreadRange() {
        IntervalSolver x = State.filled(2);
        CHECK.due("9: the greatest", x.setSpread(1, 0, 50), 6);
        CHECK.due("9: the least", x.setSpread(1, 0, 0), 50);
        CHECK.due("9: the least again", x.setSpread(1, 0, 0), 0);
        CHECK.due("9: one", x.setSpread(1, 0, 1), 0);
        for (int wrong : State.row(-1, 51, -50, 99, Integer.MIN_VALUE, Integer.MAX_VALUE)) {
            CHECK.argument("9: value " + wrong, x, () -> x.setSpread(1, 0, wrong));
        }
        CHECK.due("9: after refused values", x.setSpread(1, 0, 2), 1);
    }

    private static void spreadAtEveryPlace() {
        for (int n = 1; n <= 5; n++) {
            IntervalSolver x = new IntervalSolver();
            x.setSize(n);
            for (int place = 0; place < n * n; place++) {
                CHECK.due("9: place " + place, x.setSpread(place / n, place % n, 50 - place), 0);
            }
            for (int place = 0; place < n * n; place++) {
                CHECK.due("9: place " + place + " again", x.setSpread(place / n, place % n, 0), 50 - place);
            }
        }
    }

    /** "The spread is used by the methods variation and isDominant alone." */
    private static void spreadIsUsedByVariationAndDominanceAlone() {
        IntervalSolver x = State.filled(3);
        IntervalSolver y = State.filled(3);
        for (int place = 0; place < 9; place++) {
            x.setSpread(place / 3, place % 3, 50);
            y.setSpread(place / 3, place % 3, 0);
        }
        CHECK.due("9: determinant", x.determinant(), y.determinant());
        CHECK.due("9: condition", x.condition(), y.condition());
        for (int i = 0; i < 3; i++) {
            CHECK.due("9: hull", State.hull(x, i), State.hull(y, i));
            CHECK.due("9: inverse", State.inverse(x, i, 2 - i), State.inverse(y, i, 2 - i));
            CHECK.due("9: residualLow", x.residualLow(i), y.residualLow(i));
            CHECK.due("9: residualHigh", x.residualHigh(i), y.residualHigh(i));
        }
        CHECK.due("9: isSolution", x.isSolution(0, 0, 0, 0, 0), y.isSolution(0, 0, 0, 0, 0));
        CHECK.due("9: isCertified", x.isCertified(), y.isCertified());
        CHECK.due("9: sweep", x.sweep(), y.sweep());
        CHECK.due("9: contract", x.contract(9), y.contract(9));
        CHECK.due("9: sharpen", x.sharpen(), y.sharpen());
        CHECK.due("9: box", State.box(x), State.box(y));
        CHECK.due("9: addRow", x.addRow(0, 1, 1), y.addRow(0, 1, 1));
        CHECK.due("9: determinant after addRow", x.determinant(), y.determinant());
        CHECK.due("9: spread after addRow", x.setSpread(0, 0, 0), 50);
    }

    /** 10: "whether they are different rows": each pair of rows, with their right sides and spreads. */
    private static void swapOfEachPair() {
        for (int i = 0; i < 5; i++) {
            for (int k = 0; k < 5; k++) {
                IntervalSolver x = State.filled(5);
                String before = State.of(x);
                CHECK.due("10: swapRows(" + i + ", " + k + ")", x.swapRows(i, k), i != k);
                if (i == k) {
                    CHECK.due("10: a row with itself", State.of(x), before);
                }
                for (int row = 0; row < 5; row++) {
                    isFilledRow(x, row, row == i ? k : row == k ? i : row);
                    CHECK.due("10: the box stays", x.boxLow(row), -2000 - row);
                    CHECK.due("10: the box stays", x.boxHigh(row), 3000 + row);
                }
            }
        }
    }

    /** Looks that a row of x is what another row was when x was filled. */
    private static void isFilledRow(IntervalSolver x, int row, int was) {
        for (int j = 0; j < 5; j++) {
            CHECK.due("10: coefficient", x.coefficient(row, j), was == j ? -60 - was : 1 + was + 2 * j);
            CHECK.due("10: spread", x.setSpread(row, j, 0), 1 + 5 * was + j);
        }
        CHECK.due("10: rightLow", x.rightLow(row), -10 * was - 1);
        CHECK.due("10: rightHigh", x.rightHigh(row), 20 * was + 2);
    }

    /** 11: "if a coefficient would not be -99 to 99": each column, both signs, by itself. */
    private static void addedCoefficients() {
        for (int column = 0; column < 5; column++) {
            for (int sign : State.row(-1, 1)) {
                IntervalSolver x = State.filled(5);
                for (int j = 0; j < 5; j++) {
                    x.setCoefficient(0, j, j == column ? 98 * sign : 3);
                    x.setCoefficient(4, j, 1);
                }
                String where = "11: column " + column + ", sign " + sign;
                CHECK.due(where + ", taken", x.addRow(0, 4, sign), 5);
                CHECK.due(where + ", at the edge", x.coefficient(0, column), 99 * sign);
                CHECK.arithmetic(where + ", refused", x, () -> x.addRow(0, 4, sign));
            }
        }
        IntervalSolver y = State.system(State.row(99, -99, 0, 0), State.row(99, -99, 0, 0));
        CHECK.arithmetic("11: by the greatest products", y, () -> y.addRow(0, 1, 99));
        CHECK.arithmetic("11: by the least products", y, () -> y.addRow(0, 1, -99));
        CHECK.due("11: to 0", y.addRow(0, 1, -1), 2);
        CHECK.due("11: from 0 to the other edge", y.addRow(0, 1, -1), 2);
        CHECK.due("11: at the least", y.coefficient(0, 0), -99);
        CHECK.due("11: at the greatest", y.coefficient(0, 1), 99);
    }

    /** 11: "or an end of the right side would not be -999 to 999": each end by itself. */
    private static void addedRightSides() {
        IntervalSolver high = State.system(State.row(1, 1, 0, 998), State.row(1, 1, 0, 1));
        CHECK.due("11: the upper end at the edge", high.addRow(0, 1, 1), 2);
        CHECK.due("11: the upper end", high.rightHigh(0), 999);
        CHECK.arithmetic("11: the upper end leaves", high, () -> high.addRow(0, 1, 1));
        IntervalSolver low = State.system(State.row(1, 1, -998, 0), State.row(1, 1, -1, 0));
        CHECK.due("11: the lower end at the edge", low.addRow(0, 1, 1), 2);
        CHECK.due("11: the lower end", low.rightLow(0), -999);
        CHECK.arithmetic("11: the lower end leaves", low, () -> low.addRow(0, 1, 1));
        IntervalSolver turned = State.system(State.row(1, 1, -998, 0), State.row(1, 1, 0, 1));
        CHECK.due("11: the lower end at the edge, turned", turned.addRow(0, 1, -1), 2);
        CHECK.due("11: the lower end, turned", turned.rightLow(0), -999);
        CHECK.arithmetic("11: the lower end leaves, turned", turned, () -> turned.addRow(0, 1, -1));
        IntervalSolver other = State.system(State.row(1, 1, 0, 998), State.row(1, 1, -1, 0));
        CHECK.due("11: the upper end at the edge, turned", other.addRow(0, 1, -1), 2);
        CHECK.due("11: the upper end, turned", other.rightHigh(0), 999);
        CHECK.arithmetic("11: the upper end leaves, turned", other, () -> other.addRow(0, 1, -1));
        IntervalSolver far = State.system(State.row(0, 0, 999, 999), State.row(0, 0, 999, 999));
        CHECK.arithmetic("11: by the greatest product", far, () -> far.addRow(0, 1, 99));
        CHECK.arithmetic("11: by the least product", far, () -> far.addRow(0, 1, -99));
        CHECK.due("11: from one edge to 0", far.addRow(0, 1, -1), 0);
        CHECK.due("11: to the other edge", far.addRow(0, 1, -1), 0);
        CHECK.due("11: the other edge", far.rightLow(0) == -999 && far.rightHigh(0) == -999, true);
    }

    /** 11: "or factor is not -99 to 99". */
    private static void addedFactors() {
        IntervalSolver x = State.system(State.row(0, 0, 0, 0), State.row(1, -1, 0, 10));
        CHECK.due("11: the greatest factor", x.addRow(0, 1, 99), 2);
        CHECK.due("11: the greatest factor, coefficient", x.coefficient(0, 0), 99);
        CHECK.due("11: the greatest factor, right side", x.rightHigh(0), 990);
        IntervalSolver y = State.system(State.row(0, 0, 0, 0), State.row(1, -1, 0, 10));
        CHECK.due("11: the least factor", y.addRow(0, 1, -99), 2);
        CHECK.due("11: the least factor, coefficient", y.coefficient(0, 0), -99);
        CHECK.due("11: the least factor, right side", y.rightLow(0), -990);
        IntervalSolver empty = new IntervalSolver();
        empty.setSize(2);
        for (int wrong : State.row(100, -100, Integer.MIN_VALUE, Integer.MAX_VALUE)) {
            CHECK.argument("11: factor " + wrong, empty, () -> empty.addRow(0, 1, wrong));
        }
        String before = State.of(x);
        CHECK.due("11: factor 0", x.addRow(0, 1, 0), 0);
        CHECK.due("11: factor 0 changes nothing", State.of(x), before);
    }

    /** 11: "if both are the same row". */
    private static void addedRowIsTheSame() {
        for (int n = 1; n <= 5; n++) {
            for (int i = 0; i < n; i++) {
                IntervalSolver x = State.filled(n);
                int row = i;
                CHECK.argument("11: row " + i + " to itself", x, () -> x.addRow(row, row, 1));
                CHECK.argument("11: row " + i + " to itself, factor 0", x, () -> x.addRow(row, row, 0));
            }
        }
    }

    /** 11: "the interval of all sums of a number of its right side and the factor times a number ... of row k". */
    private static void addedIntervals() {
        IntervalSolver x = State.system(State.row(1, 1, 10, 20), State.row(1, 1, 1, 3));
        x.addRow(0, 1, 4);
        CHECK.due("11: factor 4, low", x.rightLow(0), 14);
        CHECK.due("11: factor 4, high", x.rightHigh(0), 32);
        x.addRow(0, 1, -4);
        CHECK.due("11: factor -4 does not give it back, low", x.rightLow(0), 2);
        CHECK.due("11: factor -4 does not give it back, high", x.rightHigh(0), 28);
        x.setRight(1, -3, -1);
        x.addRow(0, 1, -2);
        CHECK.due("11: factor -2 of negative ends, low", x.rightLow(0), 4);
        CHECK.due("11: factor -2 of negative ends, high", x.rightHigh(0), 34);
        x.setRight(1, 5, 5);
        x.addRow(0, 1, -1);
        CHECK.due("11: a point, low", x.rightLow(0), -1);
        CHECK.due("11: a point, high", x.rightHigh(0), 29);
    }

    /** 11: "Returns the number of coefficients that have changed", from none to all. */
    private static void addedChangesAreCounted() {
        for (int many = 0; many <= 5; many++) {
            IntervalSolver x = new IntervalSolver();
            x.setSize(5);
            for (int j = 0; j < many; j++) {
                x.setCoefficient(3, 4 - j, j - 7);
            }
            CHECK.due("11: " + many + " coefficients", x.addRow(1, 3, -2), many);
            CHECK.due("11: " + many + " coefficients back to 0", x.addRow(1, 3, 2), many);
        }
        IntervalSolver y = State.system(State.row(0, 0, 0, 0), State.row(0, 0, 1, 2));
        CHECK.due("11: the right side is not counted", y.addRow(0, 1, 3), 0);
        CHECK.due("11: the right side alone", y.rightLow(0) == 3 && y.rightHigh(0) == 6, true);
    }

    /** 11: nothing but the coefficients and the right side of row i changes. */
    private static void addedAlone() {
        IntervalSolver x = State.filled(5);
        CHECK.due("11: addRow(3, 0, 1)", x.addRow(3, 0, 1), 5);
        for (int i = 0; i < 5; i++) {
            for (int j = 0; j < 5; j++) {
                int was = i == j ? -60 - i : 1 + i + 2 * j;
                int added = j == 0 ? -60 : 1 + 2 * j;
                CHECK.due("11: coefficient", x.coefficient(i, j), i == 3 ? was + added : was);
                CHECK.due("11: the spread stays", x.setSpread(i, j, 0), 1 + 5 * i + j);
            }
            CHECK.due("11: rightLow", x.rightLow(i), -10 * i - 1 + (i == 3 ? -1 : 0));
            CHECK.due("11: rightHigh", x.rightHigh(i), 20 * i + 2 + (i == 3 ? 2 : 0));
            CHECK.due("11: the box stays", x.boxLow(i), -2000 - i);
            CHECK.due("11: the box stays", x.boxHigh(i), 3000 + i);
        }
    }
}
