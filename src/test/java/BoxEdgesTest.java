import java.math.BigInteger;

/** The edges of promises 25 to 34: a method for each sentence of the document that names one. */
public final class BoxEdgesTest {
    private static final Check CHECK = new Check();
    private static final int MOST = 1000000000;

    public static void main(String[] args) {
        boxRange();
        boxWasAnother();
        sweepLeavesOutRowsWithZero();
        sweepInAscendingOrder();
        sweepRoundsOnlyFractions();
        sweepToAPoint();
        sweepThatChangesNothing();
        sweepBeyondTheGreatestBox();
        sweepThatIsEmpty();
        contractRange();
        contractUntilNothingChanges();
        contractUntilEmpty();
        contractOfAThousand();
        sharpenToAPoint();
        sharpenThatIsEmpty();
        sharpenBeyondTheGreatestBox();
        certifiedEnds();
        certifiedInEachComponent();
        certifiedBeyondTheGreatestBox();
        greatestResiduals();
        digestWrapsAround();
        digestOfEachNumber();
        CHECK.end();
    }

    private static IntervalSolver diagonal(int n, int a) {
        IntervalSolver x = new IntervalSolver();
        x.setSize(n);
        for (int i = 0; i < n; i++) {
            x.setCoefficient(i, i, a);
        }
        return x;
    }

    /** 25: "from -1000000000 to 1000000000, and low is not greater than high". */
    private static void boxRange() {
        int[][] taken = {
            {-MOST, -MOST}, {MOST, MOST}, {-MOST, MOST}, {-MOST, 1 - MOST}, {MOST - 1, MOST}, {0, 0}, {-1, 1}};
        int[][] refused = {
            {-MOST - 1, MOST}, {-MOST, MOST + 1}, {-MOST - 1, -MOST - 1}, {MOST + 1, MOST + 1},
            {-MOST - 1, -MOST}, {MOST, MOST + 1}, {1, 0}, {0, -1}, {MOST, -MOST}, {MOST, MOST - 1},
            {1 - MOST, -MOST}, {Integer.MIN_VALUE, 0}, {0, Integer.MAX_VALUE},
            {Integer.MIN_VALUE, Integer.MIN_VALUE}, {Integer.MAX_VALUE, Integer.MAX_VALUE}};
        for (int n = 1; n <= 5; n++) {
            IntervalSolver x = State.filled(n);
            int last = n - 1;
            for (int[] box : taken) {
                CHECK.due("25: taken", x.setBox(last, box[0], box[1]), true);
                CHECK.due("26: taken", x.boxLow(last), box[0]);
                CHECK.due("27: taken", x.boxHigh(last), box[1]);
            }
            for (int[] box : refused) {
                IntervalSolver y = State.filled(n);
                CHECK.argument("25: " + box[0] + " to " + box[1], y, () -> y.setBox(last, box[0], box[1]));
                CHECK.due("26: refused", y.boxLow(last), -2000 - last);
                CHECK.due("27: refused", y.boxHigh(last), 3000 + last);
            }
        }
    }

    /** 25: "whether the interval was another one before". */
    private static void boxWasAnother() {
        IntervalSolver x = new IntervalSolver();
        CHECK.due("25: the whole one of a new object", x.setBox(0, -MOST, MOST), false);
        CHECK.due("25: the upper end alone", x.setBox(0, -MOST, 0), true);
        CHECK.due("25: the lower end alone", x.setBox(0, 0, 0), true);
        CHECK.due("25: the same", x.setBox(0, 0, 0), false);
        CHECK.due("25: both ends", x.setBox(0, 2, 2), true);
        IntervalSolver y = State.filled(5);
        for (int i = 0; i < 5; i++) {
            CHECK.due("25: as filled", y.setBox(i, -2000 - i, 3000 + i), false);
        }
    }

    /** 28: "but only those with a_ii other than 0", even if such a row has no solution. */
    private static void sweepLeavesOutRowsWithZero() {
        CHECK.due("28: of a new object", new IntervalSolver().sweep(), 0);
        IntervalSolver one = State.system(State.row(0, 5, 5));
        CHECK.due("28: 0 * x = 5", one.sweep(), 0);
        CHECK.due("28: 0 * x = 5, box", State.box(one), "-1000000000..1000000000");
        for (int skipped = 0; skipped < 3; skipped++) {
            IntervalSolver x = diagonal(3, 1);
            for (int i = 0; i < 3; i++) {
                x.setRight(i, 1, 2);
                x.setBox(i, 0, 1500);
            }
            x.setCoefficient(skipped, skipped, 0);
            x.setCoefficient(skipped, (skipped + 1) % 3, 1);
            x.setRight(skipped, 999, 999);
            CHECK.due("28: without row " + skipped, x.sweep(), 2);
            for (int i = 0; i < 3; i++) {
                CHECK.due("28: without row " + skipped, x.boxLow(i), i == skipped ? 0 : 1024);
                CHECK.due("28: without row " + skipped, x.boxHigh(i), 1500);
            }
        }
        IntervalSolver y = State.system(State.row(0, 1, 1, 1), State.row(1, 0, 1, 1));
        String before = State.of(y);
        CHECK.due("28: no row is left", y.sweep(), 0);
        CHECK.due("28: no row is left, state", State.of(y), before);
    }

    /** 28: "looks at the rows i in ascending order", with "the present low_j ... present high_j". */
    private static void sweepInAscendingOrder() {
        IntervalSolver x = diagonal(3, 1);
        x.setCoefficient(0, 1, -1);
        x.setCoefficient(1, 2, -1);
        x.setCoefficient(2, 0, -1);
        x.setBox(0, 0, 900);
        x.setBox(1, 100, 1000);
        x.setBox(2, 50, 800);
        CHECK.due("28: ascending", x.sweep(), 3);
        CHECK.due("28: ascending, box", State.box(x), "100..900 100..800 100..800");
    }

    /** 28: "the lower end rounded down and the upper end rounded up to an integer". */
    private static void sweepRoundsOnlyFractions() {
        swept(State.row(3, 1, 2), "341..683");
        swept(State.row(-3, 1, 2), "-683..-341");
        swept(State.row(3, -2, -1), "-683..-341");
        swept(State.row(-3, -2, -1), "341..683");
        swept(State.row(3, 3, 6), "1024..2048");
        swept(State.row(-3, 3, 6), "-2048..-1024");
        swept(State.row(3, -1, 1), "-342..342");
        swept(State.row(-99, -1, 1), "-11..11");
        swept(State.row(99, 0, 0), "0..0");
        swept(State.row(3, 1, 1), "341..342");
        swept(State.row(-3, 1, 1), "-342..-341");
        swept(State.row(64, 1, 1), "16..16");
        swept(State.row(1, -999, 999), "-1022976..1022976");
        swept(State.row(-1, 999, 999), "-1022976..-1022976");
    }

    private static void swept(int[] row, String due) {
        IntervalSolver x = State.system(row);
        CHECK.due("28: " + due + " by a sweep", x.sweep(), 1);
        CHECK.due("28: a sweep", State.box(x), due);
        IntervalSolver y = State.system(row);
        CHECK.due("30: " + due + " by the hull", y.sharpen(), 1);
        CHECK.due("30: the hull", State.box(y), due);
        CHECK.due("31: " + due, y.isCertified(), true);
    }

    /** 28: an intersection that is one point is not empty; the next box beside it is. */
    private static void sweepToAPoint() {
        touched(State.row(1, 5, 5), 5120, 5120);
        touched(State.row(3, 1, 2), 341, 683);
        touched(State.row(-3, 1, 2), -683, -341);
        touched(State.row(-7, -3, 4), -586, 439);
    }

    /** The sweep and the hull allow from low to high: boxes that touch them, and that do not. */
    private static void touched(int[] row, int low, int high) {
        IntervalSolver x = State.system(row);
        intersected(x, high, high + 100, high + ".." + high);
        intersected(x, low - 100, low, low + ".." + low);
        intersected(x, high + 1, high + 100, null);
        intersected(x, low - 100, low - 1, null);
        intersected(x, low - 1, high + 1, low + ".." + high);
    }

    /** Sets a box, and makes a sweep and sharpens: due is what it becomes, or null for -1. */
    private static void intersected(IntervalSolver x, int low, int high, String due) {
        x.setBox(0, low, high);
        CHECK.due("28: sweep of " + low + ".." + high, x.sweep(), due == null ? -1 : 1);
        CHECK.due("28: box", State.box(x), due == null ? low + ".." + high : due);
        x.setBox(0, low, high);
        CHECK.due("29: contract(1) of " + low + ".." + high, x.contract(1), due == null ? -1 : 1);
        CHECK.due("29: box", State.box(x), due == null ? low + ".." + high : due);
        x.setBox(0, low, high);
        CHECK.due("30: sharpen of " + low + ".." + high, x.sharpen(), due == null ? -1 : 1);
        CHECK.due("30: box", State.box(x), due == null ? low + ".." + high : due);
    }

    /** 28: intervals that are what Q is, or within it, have not changed. */
    private static void sweepThatChangesNothing() {
        IntervalSolver x = State.system(State.row(3, 1, 2));
        x.setBox(0, 341, 683);
        CHECK.due("28: as Q", x.sweep(), 0);
        x.setBox(0, 342, 682);
        CHECK.due("28: within Q", x.sweep(), 0);
        CHECK.due("28: within Q, box", State.box(x), "342..682");
        x.setBox(0, 341, 684);
        CHECK.due("28: the upper end alone", x.sweep(), 1);
        x.setBox(0, 340, 683);
        CHECK.due("28: the lower end alone", x.sweep(), 1);
        CHECK.due("28: both again", State.box(x), "341..683");
        IntervalSolver y = diagonal(5, 1);
        CHECK.due("28: all of five", y.sweep(), 5);
        CHECK.due("28: points", State.box(y), "0..0 0..0 0..0 0..0 0..0");
        CHECK.due("28: none of five", y.sweep(), 0);
    }

    /** 28: Q may lie far beyond the greatest box, and beyond 32 bits. */
    private static void sweepBeyondTheGreatestBox() {
        IntervalSolver wide = State.filled(5);
        for (int place = 0; place < 25; place++) {
            wide.setCoefficient(place / 5, place % 5, place % 6 == 0 ? 1 : 99);
        }
        for (int i = 0; i < 5; i++) {
            wide.setBox(i, -MOST, MOST);
        }
        CHECK.due("28: Q holds the greatest box", wide.sweep(), 0);
        IntervalSolver x = new IntervalSolver();
        x.setSize(5);
        for (int j = 0; j < 5; j++) {
            x.setCoefficient(0, j, 99);
            x.setBox(j, j == 0 ? -MOST : MOST, MOST);
        }
        CHECK.due("28: Q is -4000000000", x.sweep(), -1);
        x.setCoefficient(0, 0, -99);
        CHECK.due("28: Q is 4000000000", x.sweep(), -1);
        for (int j = 2; j < 5; j++) {
            x.setCoefficient(0, j, 0);
        }
        CHECK.due("28: Q is 1000000000", x.sweep(), 1);
        CHECK.due("28: Q is 1000000000, box", x.boxLow(0), MOST);
        x.setBox(0, -MOST, MOST);
        x.setCoefficient(0, 0, 99);
        CHECK.due("28: Q is -1000000000", x.sweep(), 1);
        CHECK.due("28: Q is -1000000000, box", x.boxHigh(0), -MOST);
        x.setBox(0, -MOST, MOST);
        x.setRight(0, -99, -99);
        CHECK.due("28: Q is -1000001024", x.sweep(), -1);
        x.setRight(0, 99, 99);
        CHECK.due("28: Q is -999998976", x.sweep(), 1);
        CHECK.due("28: Q is -999998976, box", x.boxHigh(0), -999998976);
    }

    /** 28: "If this is empty, the sweep ends, and all components get back the intervals ... before the sweep." */
    private static void sweepThatIsEmpty() {
        for (int n = 1; n <= 5; n++) {
            for (int empty = 0; empty < n; empty++) {
                IntervalSolver x = diagonal(n, 1);
                for (int i = 0; i < n; i++) {
                    x.setRight(i, 1, 2);
                    x.setBox(i, 10 + i, i == empty ? 1023 : 5000 + i);
                }
                String before = State.of(x);
                CHECK.due("28: empty in row " + empty + " of " + n, x.sweep(), -1);
                CHECK.due("28: state after it", State.of(x), before);
                CHECK.due("29: empty in row " + empty + " of " + n, x.contract(1000), -1);
                CHECK.due("29: state after it", State.of(x), before);
                CHECK.due("30: empty in component " + empty + " of " + n, x.sharpen(), -1);
                CHECK.due("30: state after it", State.of(x), before);
                x.setBox(empty, 0, 1024);
                CHECK.due("28: not empty any more", x.sweep(), n);
            }
        }
    }

    /** 29: "the number, 1 to 1000", "if most is not 1 to 1000". */
    private static void contractRange() {
        CHECK.due("29: contract(1)", new IntervalSolver().contract(1), 1);
        CHECK.due("29: contract(1000)", new IntervalSolver().contract(1000), 1);
        for (int wrong : State.row(0, 1001, -1, -1000, Integer.MIN_VALUE, Integer.MAX_VALUE)) {
            IntervalSolver x = State.filled(3);
            CHECK.argument("29: contract(" + wrong + ")", x, () -> x.contract(wrong));
            IntervalSolver empty = diagonal(1, 1);
            empty.setBox(0, 1, 2);
            CHECK.argument("29: contract(" + wrong + ") of an empty one", empty, () -> empty.contract(wrong));
        }
    }

    /** 29: "the number of sweeps that were made, including the last one". */
    private static void contractUntilNothingChanges() {
        for (int most = 1; most <= 5; most++) {
            IntervalSolver x = State.system(State.row(3, 1, 2));
            CHECK.due("29: one change, at most " + most, x.contract(most), Math.min(most, 2));
            CHECK.due("29: one change", State.box(x), "341..683");
            CHECK.due("29: none, at most " + most, x.contract(most), 1);
            IntervalSolver y = chain();
            CHECK.due("29: three changes, at most " + most, y.contract(most), Math.min(most, 4));
        }
    }

    /** Each sweep carries the end of the last component one row up; the fourth changes nothing. */
    private static IntervalSolver chain() {
        IntervalSolver x = State.system(
                State.row(1, -1, 0, 0, 0), State.row(0, 1, -1, 0, 0), State.row(0, 0, 1, 0, 0));
        for (int i = 0; i < 3; i++) {
            x.setBox(i, -5, 5);
        }
        return x;
    }

    /** Each sweep lifts both lower ends by 1024, until one of them passes the upper ends. */
    private static IntervalSolver lifted(int high) {
        IntervalSolver x = State.system(State.row(1, -1, 0, 0), State.row(-1, 1, 1, 1));
        x.setBox(0, 0, high);
        x.setBox(1, 0, high);
        return x;
    }

    /** 29: "its negative if the last one found an empty intersection". */
    private static void contractUntilEmpty() {
        for (int most = 1; most <= 6; most++) {
            IntervalSolver x = lifted(3 * 1024);
            CHECK.due("29: empty by the fourth, at most " + most, x.contract(most), most < 4 ? most : -4);
            int made = Math.min(most, 3);
            CHECK.due("29: the sweeps before it stand", State.box(x),
                    1024 * (made - 1) + "..3072 " + 1024 * made + "..3072");
        }
        IntervalSolver y = lifted(3 * 1024);
        y.contract(3);
        CHECK.due("29: empty at once", y.contract(1), -1);
        CHECK.due("29: empty at once, box", State.box(y), "2048..3072 3072..3072");
    }

    /** 29: "or some number has been made": at most 1000. */
    private static void contractOfAThousand() {
        IntervalSolver x = lifted(999 * 1024);
        CHECK.due("29: empty by the thousandth", x.contract(1000), -1000);
        CHECK.due("29: empty by the thousandth, box", State.box(x), "1021952..1022976 1022976..1022976");
        IntervalSolver y = lifted(1000 * 1024);
        CHECK.due("29: not empty by the thousandth", y.contract(1000), 1000);
        CHECK.due("29: not empty by the thousandth, box", State.box(y), "1022976..1024000 1024000..1024000");
        IntervalSolver z = lifted(999 * 1024);
        CHECK.due("29: 999 of them", z.contract(999), 999);
        CHECK.due("29: and the last one", z.contract(1), -1);
    }

    /** 30: "its lower end, in units, is rounded down, its upper end rounded up". */
    private static void sharpenToAPoint() {
        IntervalSolver x = State.system(State.row(2, 1, 3, 5), State.row(1, 3, 4, 4));
        x.setBox(0, 2253, 9999);
        x.setBox(1, -9999, 614);
        CHECK.due("30: points", x.sharpen(), 2);
        CHECK.due("30: points, box", State.box(x), "2253..2253 614..614");
        CHECK.due("30: as they were", x.sharpen(), 0);
        x.setBox(0, 1, 1024);
        CHECK.due("30: the lower end alone", x.sharpen(), 1);
        CHECK.due("30: the lower end", State.box(x), "1024..1024 614..614");
        for (int n = 1; n <= 5; n++) {
            IntervalSolver y = diagonal(n, -3);
            y.setRight(n - 1, 1, 2);
            CHECK.due("30: all of " + n, y.sharpen(), n);
            CHECK.due("30: low", y.boxLow(n - 1), -683);
            CHECK.due("30: high", y.boxHigh(n - 1), -341);
            y.setBox(0, -2 * MOST / 3, MOST);
            CHECK.due("30: one of " + n, y.sharpen(), 1);
        }
    }

    /** 30: "If one of the intersections is empty, nothing changes." */
    private static void sharpenThatIsEmpty() {
        IntervalSolver x = State.system(State.row(2, 1, 3, 5), State.row(1, 3, 4, 4));
        int[][] empty = {{0, 9999, 0, 613}, {0, 9999, 1025, 9999}, {0, 1023, 0, 9999}, {2254, 9999, 0, 9999}};
        for (int[] box : empty) {
            x.setBox(0, box[0], box[1]);
            x.setBox(1, box[2], box[3]);
            String before = State.of(x);
            CHECK.due("30: empty", x.sharpen(), -1);
            CHECK.due("30: nothing changes", State.of(x), before);
        }
    }

    /** The hull of each component goes from about -7 * 10^9 units (less for some) to as much. */
    private static IntervalSolver far(int[] low, int[] high) {
        IntervalSolver x = State.system(
                State.row(-97, 86, 99, low[0], high[0]),
                State.row(96, -76, -77, low[1], high[1]),
                State.row(-71, 71, 91, low[2], high[2]));
        CHECK.due("12: far", x.determinant(), -1);
        return x;
    }

    private static void sharpenBeyondTheGreatestBox() {
        IntervalSolver x = far(State.row(-999, -999, -999), State.row(999, 999, 999));
        CHECK.due("13 to 16: far", State.hull(x, 1), "-7094898/1..7094898/1");
        CHECK.due("30: the hull holds the greatest box", x.sharpen(), 0);
        IntervalSolver y = far(State.row(999, 999, -999), State.row(999, 999, -999));
        CHECK.due("13 to 16: far above", State.hull(y, 1), "7094898/1..7094898/1");
        String before = State.of(y);
        CHECK.due("30: the hull is above the greatest box", y.sharpen(), -1);
        CHECK.due("30: nothing changes", State.of(y), before);
        IntervalSolver z = far(State.row(-999, -999, 999), State.row(-999, -999, 999));
        CHECK.due("30: the hull is below the greatest box", z.sharpen(), -1);
        IntervalSolver part = far(State.row(0, 0, -999), State.row(999, 999, 0));
        CHECK.due("13 to 16: far, from 0", State.hull(part, 1), "0/1..7094898/1");
        CHECK.due("30: one end is in the greatest box", part.sharpen(), 3);
        CHECK.due("30: from 0", part.boxLow(1) == 0 && part.boxHigh(1) == MOST, true);
        IntervalSolver steep = State.steep();
        CHECK.due("30: steep", steep.sharpen(), 0);
        steep.setRight(1, 998, 999);
        CHECK.due("30: steep, more than a box", steep.sharpen(), 0);
    }

    /** 31: "each hull lies in the interval of its component", ends that are the same included. */
    private static void certifiedEnds() {
        IntervalSolver x = State.system(State.row(1, 5, 7));
        certified(x, 5120, 7168, true);
        certified(x, 5121, 7168, false);
        certified(x, 5120, 7167, false);
        certified(x, 0, 5119, false);
        certified(x, 7169, 9999, false);
        certified(x, -MOST, MOST, true);
        x.setRight(0, 5, 5);
        certified(x, 5120, 5120, true);
        certified(x, 5119, 5119, false);
        certified(x, 5121, 5121, false);
        IntervalSolver y = State.system(State.row(-3, 1, 2));
        certified(y, -683, -341, true);
        certified(y, -682, -341, false);
        certified(y, -683, -342, false);
    }

    private static void certified(IntervalSolver x, int low, int high, boolean due) {
        x.setBox(0, low, high);
        CHECK.due("31: box " + low + ".." + high, x.isCertified(), due);
    }

    private static void certifiedInEachComponent() {
        for (int n = 1; n <= 5; n++) {
            for (int i = 0; i < n; i++) {
                IntervalSolver x = diagonal(n, -1);
                for (int k = 0; k < n; k++) {
                    x.setBox(k, 0, 0);
                }
                CHECK.due("31: points of " + n, x.isCertified(), true);
                x.setBox(i, 1, 1);
                CHECK.due("31: above in component " + i, x.isCertified(), false);
                x.setBox(i, -1, -1);
                CHECK.due("31: below in component " + i, x.isCertified(), false);
            }
        }
    }

    private static void certifiedBeyondTheGreatestBox() {
        IntervalSolver x = far(State.row(-999, -999, -999), State.row(999, 999, 999));
        CHECK.due("31: the hull leaves the greatest box", x.isCertified(), false);
        IntervalSolver y = far(State.row(-1, -1, -1), State.row(1, 1, 1));
        CHECK.due("31: the hull is in the greatest box", y.isCertified(), true);
        y.setBox(1, -7102 * 1024, 7102 * 1024);
        CHECK.due("31: the same ends", y.isCertified(), true);
        y.setBox(1, -7102 * 1024, 7102 * 1024 - 1);
        CHECK.due("31: one unit less", y.isCertified(), false);
        IntervalSolver part = far(State.row(0, 0, -999), State.row(999, 999, 0));
        CHECK.due("31: one end leaves it", part.isCertified(), false);
    }

    /** 32, 33: coefficients, boxes and right sides at their edges, beyond 32 bits. */
    private static void greatestResiduals() {
        for (int sign = -1; sign <= 1; sign += 2) {
            IntervalSolver x = new IntervalSolver();
            x.setSize(5);
            for (int j = 0; j < 5; j++) {
                x.setCoefficient(4, j, 99 * sign);
                x.setBox(j, MOST, MOST);
            }
            x.setRight(4, -999, 999);
            CHECK.due("32: greatest", x.residualLow(4), sign * 990000000000L - 2045952);
            CHECK.due("33: greatest", x.residualHigh(4), sign * 990000000000L + 2045952);
            CHECK.due("32: 0", x.residualLow(3), 0);
            CHECK.due("33: 0", x.residualHigh(3), 0);
        }
        IntervalSolver y = State.system(State.row(-7, 3, 4));
        CHECK.due("32: the whole box", y.residualLow(0), -4 * 2048);
        CHECK.due("33: the whole box", y.residualHigh(0), -3 * 2048);
        y.setBox(0, 2, 3);
        CHECK.due("32: a middle of 5 / 2", y.residualLow(0), -35 - 4 * 2048);
        CHECK.due("33: a middle of 5 / 2", y.residualHigh(0), -35 - 3 * 2048);
    }

    /** 34: "which wraps around as a 64-bit integer". */
    private static void digestWrapsAround() {
        CHECK.due("34: of a new object, no wrap-around", new IntervalSolver().digest(), 51123865898012L);
        boolean wrapped = false;
        for (int n = 1; n <= 5; n++) {
            BigInteger due = folded(State.filled(n), n);
            wrapped |= due.bitLength() > 64;
            CHECK.due("34: filled, " + n, State.filled(n).digest(), due.longValue());
            CHECK.due("34: determinant 0, " + n, State.singular(n).digest(),
                    folded(State.singular(n), n).longValue());
        }
        CHECK.due("34: some have wrapped around", wrapped, true);
    }

    private static BigInteger folded(IntervalSolver x, int n) {
        BigInteger d = mixed(BigInteger.valueOf(61), n);
        for (int i = 0; i < n; i++) {
            for (int j = 0; j < n; j++) {
                d = mixed(d, x.coefficient(i, j));
            }
            for (int j = 0; j < n; j++) {
                d = mixed(d, 1 + 5 * i + j);
            }
            d = mixed(mixed(d, x.rightLow(i)), x.rightHigh(i));
        }
        for (int i = 0; i < n; i++) {
            d = mixed(mixed(d, x.boxLow(i)), x.boxHigh(i));
        }
        return mixed(d, x.determinant());
    }

    private static BigInteger mixed(BigInteger d, long x) {
        return d.multiply(BigInteger.valueOf(31)).add(BigInteger.valueOf(x));
    }

    /** 34: each of the numbers counts by itself. */
    private static void digestOfEachNumber() {
        for (int n = 1; n <= 5; n++) {
            for (int i = 0; i < n; i++) {
                int last = n - 1 - i;
                long before = State.filled(n).digest();
                IntervalSolver x = State.filled(n);
                x.setSpread(i, last, 0);
                CHECK.due("34: a spread", x.digest() != before, true);
                x = State.filled(n);
                x.setCoefficient(i, last, 99);
                CHECK.due("34: a coefficient", x.digest() != before, true);
                x = State.filled(n);
                x.setRight(i, -10 * i - 2, 20 * i + 2);
                CHECK.due("34: a lower end of a right side", x.digest() != before, true);
                x = State.filled(n);
                x.setRight(i, -10 * i - 1, 20 * i + 3);
                CHECK.due("34: an upper end of a right side", x.digest() != before, true);
                x = State.filled(n);
                x.setBox(i, -2001 - i, 3000 + i);
                CHECK.due("34: a lower end of the box", x.digest() != before, true);
                x = State.filled(n);
                x.setBox(i, -2000 - i, 3001 + i);
                CHECK.due("34: an upper end of the box", x.digest() != before, true);
            }
        }
    }
}
