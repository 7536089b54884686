/** Promises 8 and 9: repair, repaired. */
final class RepairTest {
    private RepairTest() {
    }

    public static void main(String[] args) {
        nothingToRepair();
        placesOneByOne();
        limitIsNotOver();
        nearEdges();
        freeEdges();
        piecesStandInTheWay();
        laterLayers();
        noPlace();
        mostDiodes();
        farEdge();
        layoutGrowsBetween();
        manyForTheLastNet();
        toldAndPlaced();
        repairedErrors();
        Check.end();
    }

    private static AntennaFill oneNet(int layers, long x0, long y0, long x1, long y1) {
        AntennaFill fill = new AntennaFill(layers);
        fill.net();
        fill.shape(0, layers - 1, x0, y0, x1, y1);
        fill.gate(0, 1);
        return fill;
    }

    private static void nothingToRepair() {
        AntennaFill fill = new AntennaFill(1);
        Check.same("no nets", fill.repair(), 0);
        fill.net();
        fill.shape(0, 0, 0, 0, 100, 100);
        fill.gate(0, 1);
        Check.same("no limit", fill.repair(), 0);
        AntennaFill noGate = new AntennaFill(1);
        noGate.net();
        noGate.shape(0, 0, 0, 0, 100, 100);
        noGate.limit(0, 0, 1);
        Check.same("no gates", noGate.repair(), 0);
        Check.same("none placed", fill.count(3) + noGate.count(3), 0);
    }

    private static void placesOneByOne() {
        AntennaFill fill = oneNet(2, 500, 500, 510, 510);
        fill.limit(1, 1, 3);
        Check.same("all is repaired", fill.repair(), 0);
        Check.same("1 + 3 * 128 is enough for 100 * 3", fill.count(3), 3);
        Layouts.diodeIs(fill, 0, 0, 1, 477, 477);
        Layouts.diodeIs(fill, 1, 0, 1, 483, 477);
        Layouts.diodeIs(fill, 2, 0, 1, 489, 477);
        Check.same("since layer 1, it helps there", fill.ratio(0, 1, 1), 77);
        Check.same("but not at layer 0", fill.ratio(0, 0, 1), 1);
        Check.same("told one is not the first", fill.diode(0, 1, 1), false);
        Check.same("again", fill.repair(), 0);
        Check.same("nothing more", fill.count(3), 3);
        Check.same("on layer 0 they cover", fill.density(0, 400, 400, 0), 3);
        Check.same("of 2500", fill.density(0, 400, 400, 1), 2500);
    }

    private static void limitIsNotOver() {
        AntennaFill fill = oneNet(1, 500, 500, 510, 510);
        fill.limit(0, 100, 1);
        fill.repair();
        Check.same("just at the limit", fill.count(3), 0);
        fill.limit(0, 999999, 10000);
        fill.repair();
        Check.same("just above it", fill.count(3), 1);
    }

    private static void nearEdges() {
        AntennaFill low = oneNet(2, 0, 0, 1, 1);
        low.limit(1, 0, 1);
        Check.same("never below 0", low.repair(), 1);
        Layouts.diodeIs(low, 0, 0, 1, 2, 2);
        Layouts.diodeIs(low, 3, 0, 1, 20, 2);
        Layouts.diodeIs(low, 4, 0, 1, 2, 8);
        Check.same("x and y 2, 8, 14, 20", low.count(3), 16);
        AntennaFill high = oneNet(2, 999, 999, 1000, 1000);
        high.limit(1, 0, 1);
        high.repair();
        Layouts.diodeIs(high, 0, 0, 1, 976, 976);
        Layouts.diodeIs(high, 3, 0, 1, 994, 976);
        Check.same("976, 982, 988, 994", high.count(3), 16);
    }

    private static void freeEdges() {
        AntennaFill fill = new AntennaFill(2);
        fill.net();
        fill.net();
        fill.gate(0, 1);
        fill.shape(0, 1, 500, 500, 501, 501);
        fill.limit(1, 1, 130);
        fill.shape(1, 0, 400, 400, 485, 479);
        fill.repair();
        Layouts.diodeIs(fill, 0, 0, 1, 487, 477);
        Layouts.diodeIs(fill, 1, 0, 1, 493, 477);
        fill.shape(0, 1, 100, 100, 101, 101);
        fill.shape(0, 0, 60, 60, 200, 82);
        fill.repair();
        Check.same("its own shape is in the way, at y + 2", fill.repaired(2, 3), 38 - 1);
        AntennaFill under = oneNet(2, 500, 500, 501, 501);
        under.net();
        under.shape(1, 0, 0, 0, 1000, 490);
        under.shape(1, 0, 0, 502, 1000, 1000);
        under.limit(1, 0, 1);
        Check.same("still over", under.repair(), 1);
        Check.same("a row of 7 between the shapes", under.count(3), 8);
        Layouts.diodeIs(under, 0, 0, 1, 477, 492);
        Layouts.diodeIs(under, 7, 0, 1, 519, 492);
    }

    private static void piecesStandInTheWay() {
        AntennaFill fill = oneNet(2, 100, 100, 101, 101);
        fill.limit(1, 1, 2);
        fill.bounds(0, 100, 100);
        fill.bounds(1, 100, 100);
        fill.fill(1, 100, 0, 1);
        Check.same("pieces on layer 1 are not in the way", fill.repair(), 0);
        Layouts.diodeIs(fill, 0, 0, 1, 77, 77);
        fill.limit(1, 0, 1);
        fill.fill(0, 100, 0, 0);
        fill.shape(0, 1, 700, 700, 701, 701);
        fill.repair();
        Check.same("only around the diode there is no piece", fill.repaired(1, 3), 77);
        for (int k = 0; k < fill.count(3); k++) {
            int x = fill.repaired(k, 2);
            int y = fill.repaired(k, 3);
            Check.same("diode " + k + " in the first square", x <= 94 && y <= 94, true);
        }
        fill.bounds(0, 0, 0);
        fill.fill(0, 100, 0, 0);
        int before = fill.count(3);
        fill.repair();
        Check.same("when they are gone there is room", fill.count(3) > before, true);
    }

    private static void laterLayers() {
        AntennaFill fill = new AntennaFill(3);
        fill.net();
        fill.net();
        for (int net = 0; net < 2; net++) {
            fill.gate(net, 100);
            fill.shape(net, 0, 300 + 300 * net, 300, 310 + 300 * net, 310);
            fill.shape(net, 2, 300 + 300 * net, 300, 320 + 300 * net, 310);
        }
        fill.limit(0, 1, 2);
        fill.limit(2, 1, 1);
        Check.same("repaired", fill.repair(), 0);
        Check.same("two for each net", fill.count(3), 4);
        Layouts.diodeIs(fill, 0, 0, 0, 277, 277);
        Layouts.diodeIs(fill, 1, 0, 2, 283, 277);
        Layouts.diodeIs(fill, 2, 1, 0, 577, 277);
        Layouts.diodeIs(fill, 3, 1, 2, 583, 277);
    }

    private static void noPlace() {
        AntennaFill fill = new AntennaFill(2);
        fill.net();
        fill.net();
        fill.gate(0, 1);
        fill.gate(1, 1);
        fill.shape(0, 0, 0, 0, 500, 1000);
        fill.shape(1, 1, 800, 800, 801, 801);
        fill.limit(0, 3, 1);
        fill.limit(1, 6, 1);
        fill.shape(1, 0, 500, 0, 522, 1000);
        Check.same("that without room is still over", fill.repair(), 1);
        Check.same("that with room has many", fill.count(3), 58);
        for (int k = 0; k < fill.count(3); k++) {
            Check.same("of net 1", fill.repaired(k, 0), 1);
        }
    }

    private static void mostDiodes() {
        AntennaFill fill = new AntennaFill(2);
        fill.net();
        fill.net();
        for (int net = 0; net < 2; net++) {
            fill.gate(net, 1);
            fill.shape(net, 1, 0, 500 * net, 1000, 500 * net + 500);
        }
        fill.limit(0, 0, 1);
        fill.limit(1, 1, 1);
        Check.same("both are over", fill.repair(), 2);
        Check.same("the most", fill.count(3), 60);
        Layouts.diodeIs(fill, 59, 0, 1, 2 + 59 * 6, 2);
        fill.limit(1, 1000000, 1);
        Check.same("not over any more", fill.repair(), 0);
        fill.limit(1, 500000, 1);
        Check.same("at it", fill.repair(), 0);
        fill.limit(1, 499999, 1);
        Check.same("net 1 has none", fill.repair(), 1);
    }

    private static void farEdge() {
        for (int free = 6; free <= 8; free++) {
            int edge = 1000 - free;
            AntennaFill right = oneNet(2, 999, 499, 1000, 500);
            right.net();
            right.shape(1, 0, 0, 0, edge, 1000);
            right.limit(1, 0, 1);
            right.repair();
            Check.same("right of " + edge, right.count(3) > 0, free == 8);
            AntennaFill top = oneNet(2, 499, 999, 500, 1000);
            top.net();
            top.shape(1, 0, 0, 0, 1000, edge);
            top.limit(1, 0, 1);
            top.repair();
            Check.same("above " + edge, top.count(3) > 0, free == 8);
            if (free == 8) {
                Layouts.diodeIs(right, 0, 0, 1, 994, 476);
                Layouts.diodeIs(top, 0, 0, 1, 476, 994);
            }
        }
    }

    private static void layoutGrowsBetween() {
        AntennaFill fill = oneNet(2, 500, 500, 510, 510);
        fill.limit(1, 1, 1);
        fill.repair();
        Layouts.diodeIs(fill, 0, 0, 1, 477, 477);
        Check.same("one was enough", fill.count(3), 1);
        fill.shape(0, 0, 0, 0, 3, 3);
        fill.limit(1, 1, 2);
        fill.repair();
        Layouts.diodeIs(fill, 1, 0, 1, 5, 2);
        fill.net();
        fill.shape(1, 0, 0, 0, 485, 478);
        fill.limit(1, 1, 3);
        fill.repair();
        Check.same("a third one", fill.count(3), 3);
        Layouts.diodeIs(fill, 2, 0, 1, 487, 477);
        AntennaFill filled = oneNet(2, 500, 500, 510, 510);
        filled.limit(1, 1, 1);
        filled.repair();
        filled.fill(0, 10, 0, 0);
        filled.limit(1, 1, 2);
        filled.repair();
        Layouts.diodeIs(filled, 1, 0, 1, 483, 477);
    }

    private static void manyForTheLastNet() {
        AntennaFill fill = new AntennaFill(1);
        for (int net = 0; net < 2; net++) {
            fill.net();
            fill.gate(net, 128);
            fill.shape(net, 0, 500 * net, 0, 500 * net + 64, 60);
        }
        fill.limit(0, 1, 1);
        Check.same("29 each", fill.repair(), 0);
        Check.same("58", fill.count(3), 58);
        fill.shape(1, 0, 800, 800, 816, 824);
        Check.same("two are not enough for three more", fill.repair(), 1);
        Check.same("60", fill.count(3), 60);
        Check.same("the last net's", fill.repaired(59, 0), 1);
    }

    private static void toldAndPlaced() {
        AntennaFill fill = oneNet(1, 500, 500, 510, 510);
        fill.limit(0, 1, 3);
        fill.repair();
        Check.same("one placed since 0", fill.diode(0, 0, 1), false);
        for (int d = 1; d < 100; d++) {
            fill.diode(0, 0, 1);
        }
        Check.same("placed ones are not told", fill.count(2), 100);
        Check.same("told ones have no place", fill.count(3), 3);
    }

    private static void repairedErrors() {
        AntennaFill fill = oneNet(1, 500, 500, 510, 510);
        Check.noIndex("no diode yet", () -> fill.repaired(0, 0));
        fill.diode(0, 0, 1);
        Check.noIndex("one that was told", () -> fill.repaired(0, 0));
        fill.limit(0, 1, 2);
        fill.repair();
        Check.same("placed", fill.count(3), 2);
        Check.same("last", fill.repaired(1, 0), 0);
        Check.noIndex("k -1", () -> fill.repaired(-1, 0));
        Check.noIndex("k 2", () -> fill.repaired(2, 0));
        Check.noIndex("what -1", () -> fill.repaired(0, -1));
        Check.noIndex("what 4", () -> fill.repaired(0, 4));
    }
}
