/** All promises: what they answer of what is empty, and of what is full. */
final class EmptyFullTest {
    private EmptyFullTest() {
    }

    public static void main(String[] args) {
        newObject();
        netWithoutAnything();
        gatesWithoutShapes();
        shapesWithoutGates();
        diodesWithoutGates();
        noLimit();
        limitOfZero();
        limitOfAnotherLayer();
        boundsAtFirst();
        noFillYet();
        fillThatAsksForNothing();
        layerWithoutShapes();
        toldDiodesHaveNoPlace();
        planeFullOfAShape();
        planeFullOfPieces();
        tileFullOfPieces();
        pointsCoveredTwice();
        Check.end();
    }

    private static void newObject() {
        AntennaFill fill = new AntennaFill(3);
        for (int what = 0; what < 5; what++) {
            Check.same("count of " + what, fill.count(what), 0);
        }
        Check.same("none is over", fill.repair(), 0);
        Check.same("no diode is placed", fill.count(3), 0);
        Check.noIndex("repaired 0", () -> fill.repaired(0, 0));
        for (int l = 0; l < 3; l++) {
            int layer = l;
            Layouts.densityIs(fill, layer, 0, 0, 0, 1);
            Layouts.densityIs(fill, layer, 800, 800, 0, 1);
            Check.noIndex("piece 0 of " + layer, () -> fill.piece(layer, 0, 0));
            Check.same("slots of " + layer, fill.slot(layer, 1), 0);
            Check.same("slot 0 of " + layer, fill.slotAt(layer, 1, 0, 0), AntennaFill.NONE);
            Check.same("limit 0 of " + layer + " is the first one", fill.limit(layer, 0, 1), true);
        }
        Check.same("told 0", fill.told(0), AntennaFill.NONE);
        Check.noIndex("ratio of net 0", () -> fill.ratio(0, 0, 0));
        Check.same("the first net", fill.net(), 0);
    }

    private static void netWithoutAnything() {
        AntennaFill fill = Layouts.withNets(2, 1);
        Layouts.ratioIs(fill, 0, 0, 0, 1);
        Layouts.ratioIs(fill, 0, 1, 0, 1);
        fill.limit(0, 0, 1);
        Check.same("it is not over", fill.repair(), 0);
        Check.same("its first gate", fill.gate(0, 5), 5);
    }

    private static void gatesWithoutShapes() {
        AntennaFill fill = Layouts.withNets(2, 2);
        fill.gate(0, 1000000);
        fill.shape(1, 0, 0, 0, 10, 10);
        fill.limit(0, 0, 1);
        fill.limit(1, 0, 1);
        Layouts.ratioIs(fill, 0, 1, 0, 1);
        Check.same("0 is not above 0", fill.repair(), 0);
        Check.same("no diode", fill.count(3), 0);
    }

    private static void shapesWithoutGates() {
        AntennaFill fill = Layouts.withNets(2, 1);
        fill.shape(0, 0, 0, 0, 1000, 1000);
        fill.limit(0, 0, 1);
        fill.limit(1, 0, 1);
        Layouts.ratioIs(fill, 0, 0, 0, 1);
        Check.same("not over", fill.repair(), 0);
        fill.gate(0, 1);
        Layouts.ratioIs(fill, 0, 0, 1000000, 1);
        Check.same("over once there is a gate", fill.repair(), 1);
    }

    private static void diodesWithoutGates() {
        AntennaFill fill = Layouts.withNets(1, 1);
        fill.shape(0, 0, 0, 0, 10, 10);
        fill.diode(0, 0, 3);
        Layouts.ratioIs(fill, 0, 0, 0, 1);
        fill.limit(0, 0, 1);
        Check.same("not over", fill.repair(), 0);
        fill.gate(0, 1);
        Layouts.ratioIs(fill, 0, 0, 4, 1);
    }

    private static void noLimit() {
        AntennaFill fill = Layouts.withNets(2, 1);
        fill.gate(0, 1);
        fill.shape(0, 0, 0, 0, 500, 1000);
        Check.same("over at no layer", fill.repair(), 0);
        Check.same("no diode", fill.count(3), 0);
    }

    private static void limitOfZero() {
        AntennaFill fill = Layouts.withNets(1, 1);
        fill.gate(0, 1000000);
        fill.shape(0, 0, 500, 500, 501, 501);
        fill.limit(0, 0, 1000000);
        Check.same("one point is above 0, whatever is placed", fill.repair(), 1);
        Check.same("all near places are used", fill.count(3) > 40, true);
    }

    private static void limitOfAnotherLayer() {
        AntennaFill fill = Layouts.withNets(3, 1);
        fill.gate(0, 1);
        fill.shape(0, 1, 500, 500, 510, 510);
        fill.limit(0, 0, 1);
        Check.same("at layer 0 there is nothing yet", fill.repair(), 0);
        fill.limit(2, 1, 1);
        Check.same("at layer 2 what is on layer 1 counts", fill.repair(), 0);
        Check.same("a diode", fill.count(3), 1);
        Check.same("since layer 2", fill.repaired(0, 1), 2);
        Layouts.ratioIs(fill, 0, 1, 100, 1);
        Layouts.ratioIs(fill, 0, 2, 100, 129);
    }

    private static void boundsAtFirst() {
        AntennaFill fill = Layouts.withNets(2, 1);
        fill.shape(0, 0, 0, 0, 1000, 1000);
        for (int layer = 0; layer < 2; layer++) {
            Check.same("0 and 100 are those at first", fill.bounds(layer, 0, 100), false);
            Check.same("no piece", fill.fill(layer, 4, 0, 0), 0);
            Check.same("no tile is told, empty or full", fill.told(0), AntennaFill.NONE);
        }
    }

    private static void noFillYet() {
        AntennaFill fill = Layouts.withNets(1, 1);
        fill.bounds(0, 50, 60);
        fill.shape(0, 0, 0, 0, 1000, 500);
        Check.same("told 0", fill.told(0), AntennaFill.NONE);
        Check.same("told 24", fill.told(24), AntennaFill.NONE);
        Check.same("told greatest", fill.told(Integer.MAX_VALUE), AntennaFill.NONE);
        Check.noIndex("told -1", () -> fill.told(-1));
    }

    private static void fillThatAsksForNothing() {
        AntennaFill fill = Layouts.withNets(1, 1);
        fill.bounds(0, 0, 0);
        Check.same("no piece", fill.fill(0, 100, 0, 0), 0);
        Check.same("0 percent is not above 0", fill.told(0), AntennaFill.NONE);
        fill.shape(0, 0, 999, 999, 1000, 1000);
        fill.fill(0, 100, 0, 0);
        Check.same("one point is", fill.told(0), 24);
        Check.same("that tile alone", fill.told(1), AntennaFill.NONE);
    }

    private static void layerWithoutShapes() {
        AntennaFill fill = Layouts.withNets(2, 1);
        fill.shape(0, 0, 0, 0, 1000, 1000);
        Layouts.densityIs(fill, 1, 0, 0, 0, 1);
        Check.same("slots", fill.slot(1, 1), 0);
        Check.same("slot 0", fill.slotAt(1, 1, 0, 3), AntennaFill.NONE);
        fill.bounds(1, 25, 25);
        Check.same("a piece in each tile", fill.fill(1, 100, 0, 100), 25);
        Check.same("no tile told", fill.told(0), AntennaFill.NONE);
    }

    private static void toldDiodesHaveNoPlace() {
        AntennaFill fill = Layouts.withNets(2, 1);
        fill.gate(0, 1);
        fill.shape(0, 1, 500, 500, 510, 510);
        fill.diode(0, 1, 1);
        Layouts.densityIs(fill, 0, 400, 400, 0, 1);
        Check.noIndex("not among those repaired", () -> fill.repaired(0, 0));
        Check.same("none is placed", fill.count(3), 0);
        fill.limit(1, 1, 1);
        Check.same("repaired", fill.repair(), 0);
        Check.same("a placed one is the first", fill.repaired(0, 2), 477);
        Check.same("told ones are told", fill.count(2), 1);
        Layouts.ratioIs(fill, 0, 1, 100, 137);
    }

    private static void planeFullOfAShape() {
        AntennaFill fill = Layouts.withNets(2, 2);
        Check.same("all at once", fill.shape(0, 0, 0, 0, 1000, 1000), true);
        Check.same("nothing is left", fill.shape(0, 0, 0, 0, 1000, 1000), false);
        Check.same("not even a corner", fill.shape(0, 0, 999, 0, 1000, 1), false);
        Check.same("another net's is its own", fill.shape(1, 0, 999, 0, 1000, 1), true);
        Layouts.densityIs(fill, 0, 0, 0, 1, 1);
        Layouts.densityIs(fill, 0, 799, 3, 1, 1);
        fill.bounds(0, 100, 100);
        Check.same("no piece is asked for", fill.fill(0, 4, 0, 0), 0);
        Check.same("nor a tile told", fill.told(0), AntennaFill.NONE);
        fill.bounds(0, 0, 99);
        Check.same("too much of it", fill.fill(0, 4, 0, 0), 0);
        Check.same("all tiles are told", fill.told(24), 24);
        fill.gate(0, 1000000);
        fill.limit(0, 1, 1);
        Check.same("at its limit it is not over", fill.repair(), 0);
        fill.limit(0, 999999, 1000000);
        Check.same("over, and no place", fill.repair(), 1);
        Check.same("none was placed", fill.count(3), 0);
    }

    private static void planeFullOfPieces() {
        AntennaFill fill = Layouts.withNets(2, 1);
        fill.bounds(0, 100, 100);
        Check.same("100 pieces", fill.fill(0, 100, 0, 0), 100);
        Layouts.densityIs(fill, 0, 0, 0, 1, 1);
        Layouts.densityIs(fill, 0, 555, 333, 1, 1);
        Layouts.densityIs(fill, 1, 0, 0, 0, 1);
        Check.same("no tile is told", fill.told(0), AntennaFill.NONE);
        fill.gate(0, 1);
        fill.shape(0, 1, 500, 500, 510, 510);
        fill.limit(1, 1, 1);
        Check.same("no place among the pieces", fill.repair(), 1);
        fill.bounds(0, 0, 100);
        Check.same("they go", fill.fill(0, 100, 0, 0), 0);
        Check.same("there is room", fill.repair(), 0);
        Check.same("one diode", fill.count(3), 1);
    }

    private static void tileFullOfPieces() {
        AntennaFill fill = Layouts.withNets(1, 1);
        fill.bounds(0, 100, 100);
        fill.fill(0, 100, 0, 0);
        Check.same("four in the first tile", fill.piece(0, 3, 0), 100);
        Check.same("then the next one's", fill.piece(0, 4, 0), 200);
        fill.fill(0, 99, 0, 0);
        Check.same("4 * 99 * 99 is below 100 percent", fill.told(0), 0);
        Layouts.densityIs(fill, 0, 0, 0, 9801, 10000);
        fill.bounds(0, 98, 98);
        fill.fill(0, 99, 0, 0);
        Check.same("98.01 is above 98 percent", fill.told(24), 24);
        fill.bounds(0, 98, 99);
        fill.fill(0, 99, 0, 0);
        Check.same("within 98 and 99", fill.told(0), AntennaFill.NONE);
    }

    private static void pointsCoveredTwice() {
        AntennaFill fill = Layouts.withNets(2, 2);
        fill.gate(0, 1);
        fill.shape(0, 1, 23, 23, 33, 33);
        fill.limit(1, 1, 1);
        fill.repair();
        Check.same("a diode at 2, 2", fill.repaired(0, 2) + fill.repaired(0, 3), 4);
        Layouts.densityIs(fill, 0, 0, 0, 1, 2500);
        fill.shape(1, 0, 0, 0, 10, 10);
        Layouts.densityIs(fill, 0, 0, 0, 1, 400);
        fill.shape(0, 0, 0, 0, 10, 10);
        Layouts.densityIs(fill, 0, 0, 0, 1, 400);
        fill.bounds(0, 1, 100);
        fill.fill(0, 20, 0, 0);
        Layouts.densityIs(fill, 0, 0, 0, 1, 80);
        fill.shape(1, 0, 20, 0, 40, 20);
        Layouts.densityIs(fill, 0, 0, 0, 1, 80);
        fill.shape(1, 0, 30, 0, 50, 20);
        Layouts.densityIs(fill, 0, 0, 0, 7, 400);
        Layouts.densityIs(fill, 1, 0, 0, 1, 400);
        Layouts.ratioIs(fill, 0, 0, 100, 1);
    }
}
