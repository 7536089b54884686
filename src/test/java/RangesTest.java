/** All promises: the first and the last number of each range are taken (RefusalsTest has those beyond). */
final class RangesTest {
    private static final int LAST_LAYER = 63;
    private static final int LAST_NET = 39;

    private RangesTest() {
    }

    public static void main(String[] args) {
        layersOfANewObject();
        cornersOfThePlane();
        smallestShapes();
        firstAndLastNetAndLayer();
        areasOfGates();
        areasOfDiodes();
        partsOfARatio();
        numbersOfALimit();
        whatOfAPlacedDiode();
        windows();
        percents();
        sizes();
        spaces();
        distancesAway();
        piecesAndAxes();
        numbersOfTellings();
        widths();
        slotsAndSides();
        whatIsCounted();
        Check.end();
    }

    private static void layersOfANewObject() {
        int[][] askedAndMade = {
            {Integer.MIN_VALUE, 1}, {-1, 1}, {0, 1}, {1, 1}, {2, 2}, {63, 63}, {64, 64}, {65, 64},
            {Integer.MAX_VALUE, 64}};
        for (int[] row : askedAndMade) {
            AntennaFill fill = new AntennaFill(row[0]);
            int last = row[1] - 1;
            Check.same("of " + row[0] + ", last layer", fill.bounds(last, 0, 100), false);
            Check.noIndex("of " + row[0] + ", one more", () -> fill.bounds(last + 1, 0, 100));
            Check.noIndex("of " + row[0] + ", one more limit", () -> fill.limit(last + 1, 1, 1));
        }
    }

    private static void cornersOfThePlane() {
        long[][] corners = {
            {0, 0, 1000, 1000}, {0, 0, 1, 1}, {999, 999, 1000, 1000}, {0, 999, 1, 1000}, {999, 0, 1000, 1},
            {0, 0, 1000, 1}, {0, 0, 1, 1000}, {0, 999, 1000, 1000}, {999, 0, 1000, 1000}};
        for (long[] c : corners) {
            AntennaFill fill = Layouts.withNet(1);
            fill.gate(0, 1);
            String what = "shape " + c[0] + " " + c[1] + " " + c[2] + " " + c[3];
            Check.same(what, fill.shape(0, 0, c[0], c[1], c[2], c[3]), true);
            Check.same(what + ", its area", fill.ratio(0, 0, 0), (c[2] - c[0]) * (c[3] - c[1]));
        }
    }

    private static void smallestShapes() {
        AntennaFill fill = Layouts.withNet(1);
        fill.gate(0, 1);
        Check.same("x1 is 1 above x0, y1 1 above y0", fill.shape(0, 0, 500, 500, 501, 501), true);
        Check.same("it covers one point", fill.ratio(0, 0, 0), 1);
    }

    private static void firstAndLastNetAndLayer() {
        AntennaFill fill = new AntennaFill(64);
        for (int n = 0; n <= LAST_NET; n++) {
            fill.net();
        }
        for (int net : new int[] {0, LAST_NET}) {
            fill.gate(net, 1);
            for (int layer : new int[] {0, LAST_LAYER}) {
                String what = "net " + net + ", layer " + layer;
                Check.same(what + ", shape", fill.shape(net, layer, 0, 0, 1, 1), true);
                Check.same(what + ", shape again", fill.shape(net, layer, 0, 0, 1, 1), false);
                Check.same(what + ", first diode", fill.diode(net, layer, 1), true);
                Check.same(what + ", second diode", fill.diode(net, layer, 1), false);
            }
            Check.same("guard at 0 of net " + net, fill.ratio(net, 0, 1), 17);
            Check.same("antenna at 63 of net " + net, fill.ratio(net, LAST_LAYER, 0), 2);
            Check.same("guard at 63 of net " + net, fill.ratio(net, LAST_LAYER, 1), 33);
        }
        Check.same("limit of 63", fill.limit(LAST_LAYER, 1, 100), true);
        Check.same("bounds of 63", fill.bounds(LAST_LAYER, 100, 100), true);
        Check.same("both are repaired at it", fill.repair(), 0);
        Check.same("the last one's diodes", fill.repaired(2, 0), LAST_NET);
        Check.same("since 63", fill.repaired(2, 1), LAST_LAYER);
        Check.same("pieces of 63", fill.fill(LAST_LAYER, 100, 0, 1), 99);
        Check.same("a piece of 63", fill.piece(LAST_LAYER, 98, 0), 900);
        Check.same("density of 63", fill.density(LAST_LAYER, 800, 800, 0), 1);
        Check.same("slots of 63", fill.slot(LAST_LAYER, 1), 0);
        Check.same("a slot of 63", fill.slotAt(LAST_LAYER, 1, 0, 0), AntennaFill.NONE);
    }

    private static void areasOfGates() {
        AntennaFill fill = Layouts.withNet(1);
        Check.same("the least area", fill.gate(0, 1), 1);
        Check.same("the greatest area", fill.gate(0, 1000000), 1000001);
    }

    private static void areasOfDiodes() {
        AntennaFill fill = Layouts.withNet(1);
        fill.gate(0, 1);
        fill.shape(0, 0, 0, 0, 1, 1);
        Check.same("the least area", fill.diode(0, 0, 1), true);
        Check.same("8 times it", fill.ratio(0, 0, 1), 9);
        Check.same("the greatest area", fill.diode(0, 0, 1000000), false);
        Check.same("8 times both", fill.ratio(0, 0, 1), 8000009);
    }

    private static void partsOfARatio() {
        AntennaFill fill = Layouts.withNet(1);
        fill.gate(0, 6);
        fill.shape(0, 0, 0, 0, 2, 2);
        Check.same("part 0", fill.ratio(0, 0, 0), 2);
        Check.same("part 1", fill.ratio(0, 0, 1), 3);
    }

    private static void numbersOfALimit() {
        AntennaFill fill = Layouts.withNet(1);
        Check.same("0 / 1", fill.limit(0, 0, 1), true);
        Check.same("0 / 1000000", fill.limit(0, 0, 1000000), false);
        Check.same("1000000 / 1000000", fill.limit(0, 1000000, 1000000), true);
        Check.same("1 / 1", fill.limit(0, 1, 1), false);
        Check.same("1000000 / 1", fill.limit(0, 1000000, 1), true);
        Check.same("1 / 1000000", fill.limit(0, 1, 1000000), true);
        Check.same("999999 / 1000000 is another than 1", fill.limit(0, 999999, 1000000), true);
        Check.same("and than 999998 / 999999", fill.limit(0, 999998, 999999), true);
    }

    private static void whatOfAPlacedDiode() {
        AntennaFill fill = Layouts.withNet(2);
        fill.net();
        fill.gate(1, 1);
        fill.shape(1, 1, 500, 600, 501, 601);
        fill.limit(1, 1, 129);
        fill.repair();
        fill.limit(1, 1, 257);
        fill.repair();
        Check.same("two are placed", fill.count(3), 2);
        int[][] due = {{1, 1, 477, 577}, {1, 1, 483, 577}};
        for (int k = 0; k < 2; k++) {
            for (int what = 0; what < 4; what++) {
                Check.same("what " + what + " of " + k, fill.repaired(k, what), due[k][what]);
            }
        }
    }

    private static void windows() {
        AntennaFill fill = Layouts.withNet(1);
        fill.shape(0, 0, 0, 0, 1, 1);
        fill.shape(0, 0, 999, 0, 1000, 2);
        fill.shape(0, 0, 0, 999, 4, 1000);
        fill.shape(0, 0, 999, 995, 1000, 1000);
        long[][] cornerAndLower = {{0, 0, 40000}, {800, 0, 20000}, {0, 800, 10000}, {800, 800, 8000}};
        for (long[] row : cornerAndLower) {
            String what = "window at " + row[0] + " " + row[1];
            Check.same(what + ", part 0", fill.density(0, row[0], row[1], 0), 1);
            Check.same(what + ", part 1", fill.density(0, row[0], row[1], 1), row[2]);
        }
        Check.same("one column in from the last", fill.density(0, 799, 0, 0), 0);
        Check.same("one row in from the last", fill.density(0, 0, 799, 0), 0);
        Check.same("one column in from the first", fill.density(0, 1, 0, 0), 0);
        Check.same("one row in from the first", fill.density(0, 0, 1, 0), 0);
    }

    private static void percents() {
        AntennaFill fill = Layouts.withNet(1);
        int[][] taken = {{0, 0}, {100, 100}, {0, 100}, {1, 99}, {50, 50}, {99, 100}, {0, 1}};
        for (int[] b : taken) {
            Check.same("bounds " + b[0] + " " + b[1], fill.bounds(0, b[0], b[1]), true);
            Check.same("the same " + b[0] + " " + b[1], fill.bounds(0, b[0], b[1]), false);
        }
    }

    private static void sizes() {
        AntennaFill fill = Layouts.withNet(1);
        fill.bounds(0, 1, 100);
        Check.same("size 4: 25 make one percent", fill.fill(0, 4, 0, 0), 625);
        Check.same("the second is 4 further", fill.piece(0, 1, 0), 4);
        Check.same("size 100: one is 25 percent", fill.fill(0, 100, 0, 0), 25);
        Check.same("in each tile", fill.piece(0, 1, 0), 200);
    }

    private static void spaces() {
        AntennaFill fill = Layouts.withNet(1);
        fill.bounds(0, 2, 100);
        Check.same("space 0", fill.fill(0, 20, 0, 0), 50);
        Check.same("side by side", fill.piece(0, 1, 0), 20);
        Check.same("space 100 leaves less", fill.fill(0, 20, 100, 0) < 50, true);
        Check.same("100 between the first two", fill.piece(0, 1, 0), 120);
    }

    private static void distancesAway() {
        AntennaFill fill = Layouts.withNet(1);
        fill.bounds(0, 1, 100);
        fill.shape(0, 0, 80, 0, 81, 1);
        Check.same("away 0", fill.fill(0, 80, 20, 0), 25);
        Check.same("it touches the shape", fill.piece(0, 0, 0), 0);
        Check.same("away 100: none in the shape's tile", fill.fill(0, 80, 20, 100), 24);
        Check.same("the first is tile 1's", fill.piece(0, 0, 0), 200);
    }

    private static void piecesAndAxes() {
        AntennaFill fill = Layouts.withNet(1);
        fill.bounds(0, 50, 100);
        Check.same("two in each tile", fill.fill(0, 100, 0, 0), 50);
        Check.same("x of the first", fill.piece(0, 0, 0), 0);
        Check.same("y of the first", fill.piece(0, 0, 1), 0);
        Check.same("x of the last", fill.piece(0, 49, 0), 900);
        Check.same("y of the last", fill.piece(0, 49, 1), 800);
    }

    private static void numbersOfTellings() {
        AntennaFill fill = Layouts.withNet(1);
        fill.bounds(0, 100, 100);
        fill.fill(0, 99, 100, 0);
        Check.same("the first of 25", fill.told(0), 0);
        Check.same("the last of 25", fill.told(24), 24);
        Check.same("one beyond", fill.told(25), AntennaFill.NONE);
        Check.same("the greatest k", fill.told(Integer.MAX_VALUE), AntennaFill.NONE);
    }

    private static void widths() {
        AntennaFill fill = Layouts.withNet(1);
        fill.shape(0, 0, 0, 0, 1000, 1000);
        Check.same("width 1", fill.slot(0, 1), 333);
        Check.same("width 400", fill.slot(0, 400), 1);
        Check.same("width 399", fill.slot(0, 399), 1);
    }

    private static void slotsAndSides() {
        AntennaFill fill = Layouts.withNet(1);
        fill.shape(0, 0, 10, 20, 110, 41);
        Check.same("two slots", fill.slot(0, 4), 2);
        int[][] due = {{14, 24, 106, 26}, {14, 30, 106, 32}};
        for (int k = 0; k < 2; k++) {
            for (int side = 0; side < 4; side++) {
                Check.same("side " + side + " of slot " + k, fill.slotAt(0, 4, k, side), due[k][side]);
            }
        }
        for (int k : new int[] {-1, 2, Integer.MIN_VALUE, Integer.MAX_VALUE}) {
            Check.same("no slot " + k + ", side 0", fill.slotAt(0, 4, k, 0), AntennaFill.NONE);
            Check.same("no slot " + k + ", side 3", fill.slotAt(0, 4, k, 3), AntennaFill.NONE);
        }
    }

    private static void whatIsCounted() {
        AntennaFill fill = Layouts.withNet(1);
        fill.bounds(0, 1, 100);
        fill.fill(0, 20, 0, 0);
        Check.same("what 0", fill.count(0), 1);
        Check.same("what 4", fill.count(4), 25);
    }
}
