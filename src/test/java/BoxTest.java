/** Promises 25 to 34: the box, the sweeps, the residuals and the digest. */
public final class BoxTest {
    private static final Check CHECK = new Check();
    private static final int MOST = 1000000000;

    public static void main(String[] args) {
        setBox();
        boxEnds();
        sweep();
        sweepRoundsToTheOutside();
        sweepFindsNothing();
        contract();
        contractStops();
        sharpen();
        isCertified();
        isCertifiedInGreatSystems();
        residuals();
        digest();
        fiveRows();
        CHECK.end();
    }

    private static IntervalSolver two() {
        return State.system(State.row(2, 1, 3, 5), State.row(1, 3, 4, 4));
    }

    private static void setBox() {
        IntervalSolver x = two();
        CHECK.due("25: as it was", x.setBox(1, -MOST, MOST), false);
        CHECK.due("25: other low", x.setBox(1, -MOST + 1, MOST), true);
        CHECK.due("25: other high", x.setBox(1, -MOST + 1, MOST - 1), true);
        CHECK.due("25: the same again", x.setBox(1, -MOST + 1, MOST - 1), false);
        CHECK.due("25: a point at the top", x.setBox(0, MOST, MOST), true);
        CHECK.due("25: a point at the bottom", x.setBox(0, -MOST, -MOST), true);
        CHECK.argument("25: low too small", x, () -> x.setBox(0, -MOST - 1, 0));
        CHECK.argument("25: high too great", x, () -> x.setBox(0, 0, MOST + 1));
        CHECK.argument("25: low too great", x, () -> x.setBox(0, MOST + 1, MOST + 1));
        CHECK.argument("25: low above high", x, () -> x.setBox(0, 5, 4));
        CHECK.argument("25: extremes", x, () -> x.setBox(0, Integer.MIN_VALUE, Integer.MAX_VALUE));
        CHECK.index("25: component 2", x, () -> x.setBox(2, 0, 0));
        CHECK.index("25: component -1, low above high", x, () -> x.setBox(-1, 5, 4));
    }

    private static void boxEnds() {
        IntervalSolver x = two();
        x.setBox(0, -3, 4);
        x.setBox(1, 5, 6);
        CHECK.due("26: boxLow(0)", x.boxLow(0), -3);
        CHECK.due("26: boxLow(1)", x.boxLow(1), 5);
        CHECK.due("27: boxHigh(0)", x.boxHigh(0), 4);
        CHECK.due("27: boxHigh(1)", x.boxHigh(1), 6);
        CHECK.index("26: boxLow(2)", x, () -> x.boxLow(2));
        CHECK.index("26: boxLow(-1)", x, () -> x.boxLow(-1));
        CHECK.index("27: boxHigh(2)", x, () -> x.boxHigh(2));
        CHECK.index("27: boxHigh(-1)", x, () -> x.boxHigh(-1));
    }

    private static void sweep() {
        IntervalSolver x = two();
        x.setBox(1, 0, 2048);
        CHECK.due("28: sweep, later rows see what earlier ones left", x.sweep(), 2);
        // Row 0: (3072..5120 - 0..2048) / 2; row 1: (4096 - 512..2560) / 3.
        CHECK.due("28: box", State.box(x), "512..2560 512..1195");
        CHECK.due("28: sweep 2", x.sweep(), 2);
        CHECK.due("28: box 2", State.box(x), "938..2304 597..1053");
        x.setBox(0, 1100, 1200);
        x.setBox(1, 900, 1000);
        CHECK.due("28: one component changes", x.sweep(), 1);
        CHECK.due("28: box 3", State.box(x), "1100..1200 965..999");
        IntervalSolver skips = State.system(State.row(0, 1, 1, 1), State.row(1, 2, 0, 0));
        skips.setBox(0, -4, 4);
        CHECK.due("28: a row with 0 on its diagonal is left out", skips.sweep(), 1);
        CHECK.due("28: box 4", State.box(skips), "-4..4 -2..2");
        CHECK.due("28: nothing changes", skips.sweep(), 0);
        CHECK.due("28: of a new object", new IntervalSolver().sweep(), 0);
    }

    private static void sweepRoundsToTheOutside() {
        IntervalSolver x = State.system(State.row(3, 1, 2));
        x.sweep();
        CHECK.due("28: 3 * x in 1..2", State.box(x), "341..683");
        x = State.system(State.row(3, -2, -1));
        x.sweep();
        CHECK.due("28: 3 * x in -2..-1", State.box(x), "-683..-341");
        x = State.system(State.row(-3, 1, 2));
        x.sweep();
        CHECK.due("28: -3 * x in 1..2", State.box(x), "-683..-341");
        x = State.system(State.row(-3, -2, 2));
        x.sweep();
        CHECK.due("28: -3 * x in -2..2", State.box(x), "-683..683");
        x = State.system(State.row(1, -99, 7, 7), State.row(0, 0, 0, 0));
        x.setBox(0, -MOST, MOST);
        x.setBox(1, 10000000, 10000001);
        CHECK.due("28: great products", x.sweep(), 1);
        CHECK.due("28: great products, box", State.box(x), "990007168..990007267 10000000..10000001");
        x.setBox(0, -MOST, MOST);
        x.setBox(1, MOST, MOST);
        CHECK.due("28: products beyond 32 bits", x.sweep(), -1);
        CHECK.due("28: products beyond 32 bits, box", State.box(x), "-1000000000..1000000000 1000000000..1000000000");
    }

    private static void sweepFindsNothing() {
        IntervalSolver x = State.system(State.row(1, 0, 1, 2), State.row(0, 1, 5, 5));
        x.setBox(0, 0, 1024);
        x.setBox(1, 0, 5119);
        CHECK.due("28: row 1 empties it", x.sweep(), -1);
        CHECK.due("28: row 0 gets back its interval", State.box(x), "0..1024 0..5119");
        x.setBox(1, 5120, 5120);
        CHECK.due("28: a point is not empty", x.sweep(), 1);
        CHECK.due("28: a point", State.box(x), "1024..1024 5120..5120");
        x.setBox(1, 5121, 6000);
        CHECK.due("28: above is empty", x.sweep(), -1);
        x.setBox(0, 0, 1023);
        x.setBox(1, 0, 6000);
        CHECK.due("28: row 0 empties it", x.sweep(), -1);
        CHECK.due("28: row 1 stays", State.box(x), "0..1023 0..6000");
    }

    private static void contract() {
        IntervalSolver x = two();
        IntervalSolver y = two();
        CHECK.due("29: contract(1)", x.contract(1), 1);
        y.sweep();
        CHECK.due("29: as one sweep", State.box(x), State.box(y));
        CHECK.due("29: contract(3)", x.contract(3), 3);
        for (int k = 0; k < 3; k++) {
            y.sweep();
        }
        CHECK.due("29: as three sweeps", State.box(x), State.box(y));
        int sweeps = 1;
        while (y.sweep() > 0) {
            sweeps++;
        }
        CHECK.due("29: contract(1000) counts the last one", x.contract(1000), sweeps);
        CHECK.due("29: as sweeps until nothing changes", State.box(x), State.box(y));
        CHECK.due("29: contract again", x.contract(1000), 1);
        CHECK.argument("29: contract(0)", x, () -> x.contract(0));
        CHECK.argument("29: contract(1001)", x, () -> x.contract(1001));
        CHECK.argument("29: contract(-1)", x, () -> x.contract(-1));
    }

    private static void contractStops() {
        IntervalSolver never = State.system(State.row(0, 1, 1));
        CHECK.due("29: without a diagonal", never.contract(1000), 1);
        IntervalSolver empty = State.system(State.row(1, 0, 1));
        empty.setBox(0, 2000, 3000);
        CHECK.due("29: empty at once", empty.contract(10), -1);
        CHECK.due("29: empty at once, most 1", empty.contract(1), -1);
        CHECK.due("29: empty, box", State.box(empty), "2000..3000");
        IntervalSolver x = State.system(State.row(2, 1, 1, 1), State.row(1, 2, 1, 1));
        x.setBox(0, 400, 2000);
        x.setBox(1, 0, 2000);
        IntervalSolver y = State.system(State.row(2, 1, 1, 1), State.row(1, 2, 1, 1));
        y.setBox(0, 400, 2000);
        y.setBox(1, 0, 2000);
        int sweeps = 0;
        int last = 0;
        while (last >= 0) {
            last = y.sweep();
            sweeps++;
        }
        CHECK.due("29: some sweeps before it is empty", sweeps > 1, true);
        CHECK.due("29: empty in the end", x.contract(1000), -sweeps);
        CHECK.due("29: earlier sweeps stand", State.box(x), State.box(y));
        IntervalSolver slow = State.system(State.row(1, 1, 0, 0), State.row(1, -1, 0, 0));
        slow.setBox(0, -1000, 1000);
        slow.setBox(1, -1000, 1000);
        CHECK.due("29: no change by a sweep ends it", slow.contract(1000), 1);
        IntervalSolver slower = State.system(State.row(99, 99, 0, 0), State.row(98, 99, 0, 0));
        CHECK.due("29: a thousand sweeps", slower.contract(1000), 1000);
    }

    private static void sharpen() {
        IntervalSolver x = two();
        x.setBox(0, 0, 3000);
        CHECK.due("30: both change", x.sharpen(), 2);
        // The hull is 1..11/5 and 3/5..1; 11/5 is 2252.8 units and 3/5 is 614.4.
        CHECK.due("30: rounded to the outside", State.box(x), "1024..2253 614..1024");
        CHECK.due("30: nothing changes", x.sharpen(), 0);
        x.setBox(0, 1100, 1200);
        x.setBox(1, 0, 700);
        CHECK.due("30: one changes", x.sharpen(), 1);
        CHECK.due("30: an intersection", State.box(x), "1100..1200 614..700");
        x.setBox(0, 0, 3000);
        x.setBox(1, 0, 613);
        CHECK.due("30: empty", x.sharpen(), -1);
        CHECK.due("30: nothing changes then", State.box(x), "0..3000 0..613");
        x.setBox(1, 0, 614);
        CHECK.due("30: a point is not empty", x.sharpen(), 2);
        CHECK.due("30: a point", State.box(x), "1024..2253 614..614");
        IntervalSolver y = State.system(State.row(-3, 1, 2));
        CHECK.due("30: -3 * x in 1..2", y.sharpen(), 1);
        CHECK.due("30: negative ends", State.box(y), "-683..-341");
        IntervalSolver z = State.system(State.row(1, 2, 0, 0), State.row(2, 4, 0, 0));
        CHECK.arithmetic("30: singular", z, () -> z.sharpen());
    }

    private static void isCertified() {
        IntervalSolver x = two();
        CHECK.due("31: the whole box", x.isCertified(), true);
        x.setBox(0, 1024, 2253);
        x.setBox(1, 614, 1024);
        CHECK.due("31: the hull, rounded", x.isCertified(), true);
        x.setBox(0, 1025, 2253);
        CHECK.due("31: low 0 too great", x.isCertified(), false);
        x.setBox(0, 1024, 2252);
        CHECK.due("31: high 0 too small", x.isCertified(), false);
        x.setBox(0, 1024, 2253);
        x.setBox(1, 615, 1024);
        CHECK.due("31: low 1 too great", x.isCertified(), false);
        x.setBox(1, 614, 1023);
        CHECK.due("31: high 1 too small", x.isCertified(), false);
        IntervalSolver y = State.system(State.row(1, 2, 0, 0), State.row(2, 4, 0, 0));
        CHECK.arithmetic("31: singular", y, () -> y.isCertified());
    }

    /** The products of the box with the determinant would leave 64 bits. */
    private static void isCertifiedInGreatSystems() {
        int a = 99;
        IntervalSolver x = State.system(
                State.row(-a, a, a, a, a, 0, 0),
                State.row(a, -a, a, a, a, 0, 0),
                State.row(a, a, -a, a, a, 0, 0),
                State.row(a, a, a, -a, a, 0, 0),
                State.row(a, a, a, a, -a, 0, 0));
        CHECK.due("31: the whole box, great determinant", x.isCertified(), true);
        x.setBox(4, 1, MOST);
        CHECK.due("31: no 0 in a great box", x.isCertified(), false);
        x.setBox(4, -MOST, -1);
        CHECK.due("31: no 0 in a great box below", x.isCertified(), false);
    }

    private static void residuals() {
        IntervalSolver x = State.system(State.row(2, -1, 3, 5), State.row(1, 3, -4, 4));
        x.setBox(0, 10, 20);
        x.setBox(1, -7, 100);
        CHECK.due("32: residualLow(0)", x.residualLow(0), 2 * 30 - 93 - 2048 * 5);
        CHECK.due("32: residualLow(1)", x.residualLow(1), 30 + 3 * 93 - 2048 * 4);
        CHECK.due("33: residualHigh(0)", x.residualHigh(0), 2 * 30 - 93 - 2048 * 3);
        CHECK.due("33: residualHigh(1)", x.residualHigh(1), 30 + 3 * 93 + 2048 * 4);
        x.setBox(0, MOST, MOST);
        x.setBox(1, MOST, MOST);
        x.setCoefficient(0, 0, 99);
        x.setCoefficient(0, 1, 99);
        CHECK.due("32: beyond 32 bits", x.residualLow(0), 396000000000L - 2048 * 5);
        CHECK.due("33: beyond 32 bits", x.residualHigh(0), 396000000000L - 2048 * 3);
        CHECK.index("32: residualLow(2)", x, () -> x.residualLow(2));
        CHECK.index("32: residualLow(-1)", x, () -> x.residualLow(-1));
        CHECK.index("33: residualHigh(2)", x, () -> x.residualHigh(2));
        CHECK.index("33: residualHigh(-1)", x, () -> x.residualHigh(-1));
    }

    private static void digest() {
        CHECK.due("34: of a new object", new IntervalSolver().digest(),
                folded(61, 1, 0, 0, 0, 0, -MOST, MOST, 0));
        IntervalSolver x = State.system(State.row(2, 1, 3, 5), State.row(-1, 3, -4, 4));
        x.setSpread(0, 1, 12);
        x.setSpread(1, 0, 34);
        x.setBox(0, -20, 30);
        x.setBox(1, 40, 50);
        CHECK.due("34: of two rows", x.digest(),
                folded(61, 2, 2, 1, 0, 12, 3, 5, -1, 3, 34, 0, -4, 4, -20, 30, 40, 50, 7));
    }

    private static long folded(long start, long... numbers) {
        long d = start;
        for (long number : numbers) {
            d = d * 31 + number;
        }
        return d;
    }

    private static void fiveRows() {
        IntervalSolver x = new IntervalSolver();
        x.setSize(5);
        for (int i = 0; i < 5; i++) {
            x.setCoefficient(i, i, 4);
            x.setCoefficient(i, (i + 1) % 5, 1);
            x.setRight(i, 8, 12);
            x.setBox(i, 0, 4096);
        }
        CHECK.due("28: sweep of five rows", x.sweep(), 5);
        CHECK.due("28: box of five rows", State.box(x),
                "1024..3072 1024..3072 1024..3072 1024..3072 1280..2816");
        CHECK.due("32: residualLow(4)", x.residualLow(4), 4 * 4096 + 4096 - 2048 * 12);
        CHECK.due("33: residualHigh(4)", x.residualHigh(4), 4 * 4096 + 4096 - 2048 * 8);
        CHECK.due("31: of five rows", x.isCertified(), true);
        x.setBox(4, 0, 2048);
        CHECK.due("30: of five rows", x.sharpen(), 5);
        // Each row of the inverse has 256, -64, 16, -4, 1 over 1025, so each hull is 1368/1025..2732/1025.
        CHECK.due("30: box of five rows", State.box(x), "1366..2730 1366..2730 1366..2730 1366..2730 1366..2048");
    }
}
