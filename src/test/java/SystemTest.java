/** Promises 1 to 11: a new object, and how a system is set and told. */
public final class SystemTest {
    private static final Check CHECK = new Check();

    public static void main(String[] args) {
        newObject();
        setSize();
        size();
        setCoefficient();
        coefficient();
        setRight();
        rightEnds();
        setSpread();
        swapRows();
        addRow();
        addRowAtTheEdges();
        addRowThrows();
        CHECK.end();
    }

    private static void newObject() {
        IntervalSolver x = new IntervalSolver();
        CHECK.due("1: size of a new object", x.size(), 1);
        String fresh = State.of(x);
        x.setSize(1);
        CHECK.due("1: state of a new object", fresh, State.of(x));
    }

    private static void setSize() {
        for (int n = 1; n <= 5; n++) {
            IntervalSolver x = new IntervalSolver();
            fillWithOnes(x, 5);
            CHECK.due("2: setSize(" + n + ")", x.setSize(n), n);
            CHECK.due("2: state after setSize(" + n + ")", State.of(x), State.of(State.system(empty(n))));
            fillWithOnes(x, 5);
            CHECK.due("2: setSize(5)", x.setSize(5), 5);
            CHECK.due("2: state after setSize(5)", State.of(x), State.of(State.system(empty(5))));
        }
        IntervalSolver x = new IntervalSolver();
        fillWithOnes(x, 2);
        for (int wrong : State.row(0, 6, -1, Integer.MIN_VALUE, Integer.MAX_VALUE)) {
            CHECK.argument("2: setSize(" + wrong + ")", x, () -> x.setSize(wrong));
        }
        x.setSize(2);
        CHECK.due("2: new rows are 0", x.coefficient(1, 1), 0);
        CHECK.due("2: new right sides are 0", x.rightLow(1) == 0 && x.rightHigh(1) == 0, true);
        CHECK.due("2: new boxes", State.box(x), "-1000000000..1000000000 -1000000000..1000000000");
        CHECK.due("2: new spreads are 0", x.setSpread(1, 0, 0), 0);
    }

    private static int[][] empty(int n) {
        return new int[n][n + 2];
    }

    private static void fillWithOnes(IntervalSolver x, int n) {
        x.setSize(n);
        for (int i = 0; i < n; i++) {
            for (int j = 0; j < n; j++) {
                x.setCoefficient(i, j, 1);
                x.setSpread(i, j, 1);
            }
            x.setRight(i, 1, 1);
            x.setBox(i, 1, 1);
        }
    }

    private static void size() {
        IntervalSolver x = new IntervalSolver();
        x.setSize(4);
        CHECK.due("3: size()", x.size(), 4);
        x.setSize(3);
        CHECK.due("3: size() again", x.size(), 3);
    }

    private static void setCoefficient() {
        IntervalSolver x = new IntervalSolver();
        x.setSize(3);
        CHECK.due("4: setCoefficient(2, 1, 99)", x.setCoefficient(2, 1, 99), 0);
        CHECK.due("4: setCoefficient(2, 1, -99)", x.setCoefficient(2, 1, -99), 99);
        CHECK.due("4: setCoefficient(2, 1, 0)", x.setCoefficient(2, 1, 0), -99);
        CHECK.due("4: setCoefficient(1, 2, 5)", x.setCoefficient(1, 2, 5), 0);
        CHECK.due("4: the other one stays", x.coefficient(2, 1), 0);
        CHECK.argument("4: value 100", x, () -> x.setCoefficient(0, 0, 100));
        CHECK.argument("4: value -100", x, () -> x.setCoefficient(0, 0, -100));
        CHECK.argument("4: least value", x, () -> x.setCoefficient(0, 0, Integer.MIN_VALUE));
        CHECK.index("4: row 3", x, () -> x.setCoefficient(3, 0, 1));
        CHECK.index("4: row -1", x, () -> x.setCoefficient(-1, 0, 1));
        CHECK.index("4: column 3", x, () -> x.setCoefficient(0, 3, 1));
        CHECK.index("4: column -1", x, () -> x.setCoefficient(0, -1, 1));
        CHECK.index("4: column 5 and value 100", x, () -> x.setCoefficient(0, 5, 100));
    }

    private static void coefficient() {
        IntervalSolver x = State.system(State.row(1, -2, 0, 0), State.row(3, 4, 0, 0));
        CHECK.due("5: coefficient(0, 1)", x.coefficient(0, 1), -2);
        CHECK.due("5: coefficient(1, 0)", x.coefficient(1, 0), 3);
        CHECK.index("5: row 2", x, () -> x.coefficient(2, 0));
        CHECK.index("5: row -1", x, () -> x.coefficient(-1, 0));
        CHECK.index("5: column 2", x, () -> x.coefficient(0, 2));
        CHECK.index("5: column -1", x, () -> x.coefficient(0, -1));
    }

    private static void setRight() {
        IntervalSolver x = new IntervalSolver();
        x.setSize(2);
        CHECK.due("6: setRight(1, 0, 0)", x.setRight(1, 0, 0), false);
        CHECK.due("6: setRight(1, 0, 7)", x.setRight(1, 0, 7), true);
        CHECK.due("6: setRight(1, -7, 7)", x.setRight(1, -7, 7), true);
        CHECK.due("6: setRight(1, -7, 7) again", x.setRight(1, -7, 7), false);
        CHECK.due("6: setRight(0, -999, 999)", x.setRight(0, -999, 999), true);
        CHECK.due("6: setRight(0, 999, 999)", x.setRight(0, 999, 999), true);
        CHECK.due("6: setRight(0, -999, -999)", x.setRight(0, -999, -999), true);
        CHECK.argument("6: low -1000", x, () -> x.setRight(0, -1000, 0));
        CHECK.argument("6: high 1000", x, () -> x.setRight(0, 0, 1000));
        CHECK.argument("6: both 1000", x, () -> x.setRight(0, 1000, 1000));
        CHECK.argument("6: low above high", x, () -> x.setRight(0, 1, 0));
        CHECK.index("6: row 2", x, () -> x.setRight(2, 0, 0));
        CHECK.index("6: row -1, low above high", x, () -> x.setRight(-1, 1, 0));
    }

    private static void rightEnds() {
        IntervalSolver x = State.system(State.row(0, 0, -5, 6), State.row(0, 0, 7, 8));
        CHECK.due("7: rightLow(0)", x.rightLow(0), -5);
        CHECK.due("7: rightLow(1)", x.rightLow(1), 7);
        CHECK.due("8: rightHigh(0)", x.rightHigh(0), 6);
        CHECK.due("8: rightHigh(1)", x.rightHigh(1), 8);
        CHECK.index("7: rightLow(2)", x, () -> x.rightLow(2));
        CHECK.index("7: rightLow(-1)", x, () -> x.rightLow(-1));
        CHECK.index("8: rightHigh(2)", x, () -> x.rightHigh(2));
        CHECK.index("8: rightHigh(-1)", x, () -> x.rightHigh(-1));
    }

    private static void setSpread() {
        IntervalSolver x = new IntervalSolver();
        x.setSize(2);
        CHECK.due("9: setSpread(0, 1, 50)", x.setSpread(0, 1, 50), 0);
        CHECK.due("9: setSpread(0, 1, 3)", x.setSpread(0, 1, 3), 50);
        CHECK.due("9: setSpread(1, 0, 0)", x.setSpread(1, 0, 0), 0);
        CHECK.due("9: setSpread(0, 1, 0)", x.setSpread(0, 1, 0), 3);
        CHECK.argument("9: value -1", x, () -> x.setSpread(0, 1, -1));
        CHECK.argument("9: value 51", x, () -> x.setSpread(0, 1, 51));
        CHECK.index("9: row 2", x, () -> x.setSpread(2, 0, 1));
        CHECK.index("9: row -1", x, () -> x.setSpread(-1, 0, 1));
        CHECK.index("9: column 2", x, () -> x.setSpread(0, 2, 1));
        CHECK.index("9: column -1 and value 51", x, () -> x.setSpread(0, -1, 51));
    }

    private static void swapRows() {
        IntervalSolver x =
                State.system(State.row(1, 2, 3, 1, 2), State.row(4, 5, 6, 3, 4), State.row(7, 8, 9, 5, 6));
        x.setSpread(0, 2, 10);
        x.setSpread(2, 1, 20);
        x.setBox(0, 1, 2);
        x.setBox(2, 3, 4);
        CHECK.due("10: swapRows(0, 2)", x.swapRows(0, 2), true);
        IntervalSolver y =
                State.system(State.row(7, 8, 9, 5, 6), State.row(4, 5, 6, 3, 4), State.row(1, 2, 3, 1, 2));
        y.setSpread(2, 2, 10);
        y.setSpread(0, 1, 20);
        y.setBox(0, 1, 2);
        y.setBox(2, 3, 4);
        CHECK.due("10: state after swapRows(0, 2)", State.of(x), State.of(y));
        CHECK.due("10: swapRows(1, 1)", x.swapRows(1, 1), false);
        CHECK.due("10: state after swapRows(1, 1)", State.of(x), State.of(y));
        CHECK.index("10: swapRows(3, 0)", x, () -> x.swapRows(3, 0));
        CHECK.index("10: swapRows(0, 3)", x, () -> x.swapRows(0, 3));
        CHECK.index("10: swapRows(-1, -1)", x, () -> x.swapRows(-1, -1));
    }

    private static void addRow() {
        IntervalSolver x = State.system(State.row(1, 2, 3, 10, 20), State.row(4, 0, -6, -3, 5), State.row(0, 0, 0, 0, 0));
        x.setSpread(0, 0, 7);
        x.setSpread(1, 1, 9);
        CHECK.due("11: addRow(0, 1, 2)", x.addRow(0, 1, 2), 2);
        IntervalSolver y = State.system(State.row(9, 2, -9, 4, 30), State.row(4, 0, -6, -3, 5), State.row(0, 0, 0, 0, 0));
        y.setSpread(0, 0, 7);
        y.setSpread(1, 1, 9);
        CHECK.due("11: state after factor 2", State.of(x), State.of(y));
        CHECK.due("11: addRow(0, 1, -3)", x.addRow(0, 1, -3), 2);
        IntervalSolver z = State.system(State.row(-3, 2, 9, -11, 39), State.row(4, 0, -6, -3, 5), State.row(0, 0, 0, 0, 0));
        z.setSpread(0, 0, 7);
        z.setSpread(1, 1, 9);
        CHECK.due("11: state after factor -3", State.of(x), State.of(z));
        CHECK.due("11: addRow(0, 1, 0)", x.addRow(0, 1, 0), 0);
        CHECK.due("11: addRow(0, 2, 99)", x.addRow(0, 2, 99), 0);
        CHECK.due("11: state after nothing was added", State.of(x), State.of(z));
    }

    private static void addRowAtTheEdges() {
        IntervalSolver x = State.system(State.row(0, 0, -999, 999), State.row(1, -1, 0, 0));
        CHECK.due("11: addRow(0, 1, 99)", x.addRow(0, 1, 99), 2);
        CHECK.due("11: 99 and -99", x.coefficient(0, 0) == 99 && x.coefficient(0, 1) == -99, true);
        CHECK.arithmetic("11: one more", x, () -> x.addRow(0, 1, 1));
        CHECK.due("11: addRow(0, 1, -99)", x.addRow(0, 1, -99), 2);
        CHECK.due("11: addRow(0, 1, -99) again", x.addRow(0, 1, -99), 2);
        CHECK.arithmetic("11: one less", x, () -> x.addRow(0, 1, -1));
        IntervalSolver y = State.system(State.row(0, 0, -899, 899), State.row(0, 0, -1, 1));
        CHECK.due("11: right sides to 998", y.addRow(0, 1, 99), 0);
        CHECK.due("11: right sides to 999", y.addRow(0, 1, -1), 0);
        CHECK.due("11: -999 and 999", y.rightLow(0) == -999 && y.rightHigh(0) == 999, true);
        CHECK.arithmetic("11: right sides to 1000", y, () -> y.addRow(0, 1, 1));
        CHECK.due("11: factor 0 at the edge", y.addRow(0, 1, 0), 0);
    }

    private static void addRowThrows() {
        IntervalSolver x = State.system(State.row(50, 1, 0, 0), State.row(50, 98, 900, 900));
        CHECK.arithmetic("11: column 0 alone leaves the range", x, () -> x.addRow(0, 1, 1));
        x.setCoefficient(0, 0, 0);
        x.setCoefficient(0, 1, 2);
        CHECK.arithmetic("11: column 1 alone leaves the range", x, () -> x.addRow(0, 1, 1));
        x.setCoefficient(0, 1, 1);
        x.setRight(0, 0, 100);
        CHECK.arithmetic("11: the upper end alone leaves the range", x, () -> x.addRow(0, 1, 1));
        x.setRight(0, -100, 0);
        x.setCoefficient(0, 0, 0);
        x.setCoefficient(0, 1, 0);
        CHECK.arithmetic("11: the lower end alone leaves the range", x, () -> x.addRow(0, 1, -1));
        CHECK.argument("11: the same row", x, () -> x.addRow(1, 1, 1));
        CHECK.argument("11: the same row, factor 0", x, () -> x.addRow(0, 0, 0));
        CHECK.argument("11: factor 100", x, () -> x.addRow(0, 1, 100));
        CHECK.argument("11: factor -100", x, () -> x.addRow(0, 1, -100));
        CHECK.argument("11: greatest factor", x, () -> x.addRow(0, 1, Integer.MAX_VALUE));
        CHECK.index("11: row 2", x, () -> x.addRow(2, 0, 1));
        CHECK.index("11: added row -1", x, () -> x.addRow(0, -1, 1));
        CHECK.index("11: row 2 twice, factor 100", x, () -> x.addRow(2, 2, 100));
    }
}
