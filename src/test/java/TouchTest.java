/** Promises 8, 12 and 15: distances that are just enough, and those that are one short, on all four sides. */
final class TouchTest {
    private static final int[][] SIDES = {{-1, 0}, {1, 0}, {0, -1}, {0, 1}, {-1, -1}, {1, -1}, {-1, 1}, {1, 1}};

    private TouchTest() {
    }

    public static void main(String[] args) {
        shapesNearAPlace();
        itsOwnShapeNearAPlace();
        shapesOnOtherLayersLeaveItFree();
        diodesNearAPlace();
        piecesNearAPlace();
        placesNearTheirNet();
        placesNearTheEndOfThePlane();
        leastYThenLeastX();
        piecesAwayFromShapes();
        piecesAwayFromDiodes();
        piecesOfOtherTiles();
        piecesOfTilesAcrossACorner();
        piecesOfOtherLayers();
        piecesOfTheSameTile();
        lastPlaceOfATile();
        densityAtTheBounds();
        ratioAtTheLimit();
        wideEnoughForSlots();
        longerSide();
        Check.end();
    }

    /** Net 0 over at layer 1, by a point at 500, 500: the first near place is at 477, 477; net 1 is there too. */
    private static AntennaFill pointAt500() {
        AntennaFill fill = Layouts.withNets(2, 2);
        fill.gate(0, 1);
        fill.shape(0, 1, 500, 500, 501, 501);
        fill.limit(1, 1, 129);
        return fill;
    }

    private static void placedAt(String what, AntennaFill fill, int x, int y) {
        Check.same(what + ", still over", fill.repair(), 0);
        Check.same(what + ", placed", fill.count(3), 1);
        Check.same(what + ", x", fill.repaired(0, 2), x);
        Check.same(what + ", y", fill.repaired(0, 3), y);
    }

    private static String side(int[] to) {
        return "to " + to[0] + " " + to[1];
    }

    /** The least coordinate of a square of the breadth beside start .. end, so far from it. */
    private static int beside(int to, int start, int end, int gap, int breadth) {
        return to < 0 ? start - gap - breadth : to > 0 ? end + gap : start;
    }

    private static void shapesNearAPlace() {
        for (int[] to : SIDES) {
            AntennaFill enough = pointAt500();
            int x = beside(to[0], 477, 481, 2, 4);
            int y = beside(to[1], 477, 481, 2, 4);
            enough.shape(1, 0, x, y, x + 4, y + 4);
            placedAt("shape 2 " + side(to), enough, 477, 477);
            AntennaFill less = pointAt500();
            int nearX = beside(to[0], 477, 481, 1, 4);
            int nearY = beside(to[1], 477, 481, 1, 4);
            less.shape(1, 0, nearX, nearY, nearX + 4, nearY + 4);
            placedAt("shape 1 " + side(to), less, nearX + 6, 477);
        }
    }

    private static void itsOwnShapeNearAPlace() {
        for (int gap = 1; gap <= 2; gap++) {
            AntennaFill fill = Layouts.withNets(1, 2);
            fill.gate(0, 1);
            fill.shape(0, 0, 500, 500, 510, 510);
            fill.limit(0, 1, 1);
            fill.shape(1, 0, 0, 0, 502, 1000);
            fill.shape(1, 0, 0, 0, 1000, 494 - gap);
            placedAt("own shape " + gap + " above", fill, gap == 2 ? 504 : 512, 496 - gap);
        }
    }

    private static void shapesOnOtherLayersLeaveItFree() {
        AntennaFill fill = pointAt500();
        fill.shape(1, 1, 0, 0, 1000, 1000);
        placedAt("under a shape on layer 1", fill, 477, 477);
    }

    private static void diodesNearAPlace() {
        AntennaFill fill = pointAt500();
        fill.limit(1, 1, 257);
        fill.repair();
        Check.same("2 beside the first one", fill.repaired(1, 2), 483);
        Check.same("in its row", fill.repaired(1, 3), 477);
        AntennaFill column = pointAt500();
        column.shape(1, 0, 483, 470, 530, 530);
        column.limit(1, 1, 257);
        column.repair();
        Check.same("where there is no room beside it", column.repaired(1, 2), 477);
        Check.same("2 above the first one", column.repaired(1, 3), 483);
    }

    private static void piecesNearAPlace() {
        for (int size = 75; size <= 76; size++) {
            AntennaFill fill = pointAt500();
            fill.bounds(0, 1, 100);
            fill.fill(0, size, 0, 0);
            Check.same("tile 12 has a piece", fill.piece(0, 12, 0), 400);
            placedAt("beside a piece that ends at " + (400 + size), fill, 402 + size, 477);
        }
        // pieces of 10 at 400, 450, 500 and 550: a net's point, and the place that it has beside them
        int[][] pointAndPlace = {
            {467, 433, 444, 410}, {468, 433, 462, 410}, {433, 467, 410, 444}, {433, 468, 412, 445},
            {435, 431, 412, 408}, {434, 431, 412, 408}, {431, 435, 408, 412}, {431, 434, 412, 411}};
        for (int[] row : pointAndPlace) {
            AntennaFill fill = pointAt(row[0], row[1], false, 0);
            fill.bounds(0, 2, 100);
            Check.same("8 pieces in each tile", fill.fill(0, 10, 40, 0), 200);
            placedAt("point " + row[0] + " " + row[1] + " among pieces", fill, row[2], row[3]);
        }
        AntennaFill otherLayer = pointAt500();
        otherLayer.bounds(1, 1, 100);
        otherLayer.fill(1, 90, 0, 0);
        Check.same("a piece of layer 1 there", otherLayer.piece(1, 12, 0), 400);
        placedAt("under a piece of layer 1", otherLayer, 477, 477);
    }

    /** On layer 0 all is covered but what is right of x and above y. */
    private static AntennaFill openFrom(int x, int y) {
        AntennaFill fill = pointAt500();
        if (x > 0) {
            fill.shape(1, 0, 0, 0, x, 1000);
        }
        if (y > 0) {
            fill.shape(1, 0, 0, 0, 1000, y);
        }
        return fill;
    }

    private static void placesNearTheirNet() {
        placedAt("19 left and below", pointAt500(), 477, 477);
        placedAt("19 to the right", openFrom(518, 0), 520, 477);
        placedAt("19 above", openFrom(0, 518), 477, 520);
        placedAt("19 to the right and above", openFrom(518, 518), 520, 520);
        Check.same("20 to the right is not near", openFrom(519, 0).repair(), 1);
        Check.same("20 above is not near", openFrom(0, 519).repair(), 1);
        AntennaFill left = pointAt500();
        left.shape(1, 0, 483, 0, 1000, 1000);
        placedAt("19 left", left, 477, 477);
        AntennaFill tooFar = pointAt500();
        tooFar.shape(1, 0, 482, 0, 1000, 1000);
        Check.same("20 left is not near", tooFar.repair(), 1);
        AntennaFill below = pointAt500();
        below.shape(1, 0, 0, 483, 1000, 1000);
        placedAt("19 below", below, 477, 477);
        AntennaFill tooLow = pointAt500();
        tooLow.shape(1, 0, 0, 482, 1000, 1000);
        Check.same("20 below is not near", tooLow.repair(), 1);
        AntennaFill others = pointAt500();
        others.shape(1, 0, 0, 0, 1000, 1000);
        others.shape(1, 1, 0, 0, 1000, 1000);
        Check.same("near another net's shapes does not do", others.repair(), 1);
    }

    private static AntennaFill pointAt(long x, long y, boolean covered, int free) {
        AntennaFill fill = Layouts.withNets(2, 2);
        fill.gate(0, 1);
        fill.shape(0, 1, x, y, x + 1, y + 1);
        fill.limit(1, 1, 129);
        if (covered) {
            fill.shape(1, 0, x < 500 ? free : 0, 0, x < 500 ? 1000 : 1000 - free, 1000);
            fill.shape(1, 0, 0, y < 500 ? free : 0, 1000, y < 500 ? 1000 : 1000 - free);
        }
        return fill;
    }

    private static void placesNearTheEndOfThePlane() {
        long[] ends = {0, 999};
        for (long x : ends) {
            for (long y : ends) {
                String what = "corner " + x + " " + y;
                AntennaFill just = pointAt(x, y, true, 8);
                placedAt(what + ", 8 are free", just, x == 0 ? 2 : 994, y == 0 ? 2 : 994);
                Check.same(what + ", 7 are free", pointAt(x, y, true, 7).repair(), 1);
                placedAt(what + ", all is free", pointAt(x, y, false, 0), x == 0 ? 2 : 976, y == 0 ? 2 : 976);
            }
        }
    }

    private static void leastYThenLeastX() {
        AntennaFill fill = pointAt500();
        fill.shape(0, 1, 300, 501, 301, 502);
        fill.limit(1, 2, 129);
        placedAt("least y, though x is greater", fill, 477, 477);
        AntennaFill alike = pointAt500();
        alike.shape(0, 1, 300, 500, 301, 501);
        alike.limit(1, 2, 129);
        placedAt("y alike: least x, though the shape is later", alike, 277, 477);
        AntennaFill anyLayer = pointAt500();
        anyLayer.shape(0, 0, 800, 300, 801, 301);
        anyLayer.limit(1, 2, 129);
        placedAt("near a shape on layer 0", anyLayer, 777, 277);
    }

    /** Tile 12 with its four places of 100: how many of them have pieces, with a space of 0. */
    private static long ofFour(AntennaFill fill, int layer, long away) {
        fill.bounds(layer, 100, 100);
        fill.fill(layer, 100, 0, away);
        return fill.density(layer, 400, 400, 0) * 4 / fill.density(layer, 400, 400, 1);
    }

    private static void piecesAwayFromShapes() {
        for (int away : new int[] {1, 10, 100}) {
            for (int[] to : SIDES) {
                int x = beside(to[0], 400, 600, away, 10);
                int y = beside(to[1], 400, 600, away, 10);
                AntennaFill fill = Layouts.withNets(2, 1);
                fill.shape(0, 0, x, y, x + 10, y + 10);
                String what = "shape " + away + " away " + side(to);
                Check.same(what, ofFour(fill, 0, away), 4);
                if (away < 100) {
                    Check.same(what + ", one short", ofFour(fill, 0, away + 1), 3);
                }
                Check.same(what + ", none on layer 1", ofFour(fill, 1, 100), 4);
            }
        }
        AntennaFill touching = Layouts.withNets(1, 1);
        touching.shape(0, 0, 390, 390, 400, 610);
        Check.same("away 0: beside it", ofFour(touching, 0, 0), 4);
        touching.shape(0, 0, 390, 399, 401, 400);
        Check.same("below it", ofFour(touching, 0, 0), 4);
        touching.shape(0, 0, 399, 399, 401, 401);
        Check.same("one point of it", ofFour(touching, 0, 0), 3);
    }

    private static void piecesAwayFromDiodes() {
        for (int away : new int[] {1, 10, 77}) {
            for (int[] to : SIDES) {
                int x = beside(to[0], 400, 600, away, 4);
                int y = beside(to[1], 400, 600, away, 4);
                AntennaFill fill = Layouts.withNets(2, 1);
                fill.gate(0, 1);
                fill.shape(0, 1, x + 23, y + 23, x + 24, y + 24);
                fill.limit(1, 1, 129);
                String what = "diode " + away + " away " + side(to);
                placedAt(what, fill, x, y);
                Check.same(what, ofFour(fill, 0, away), 4);
                Check.same(what + ", one short", ofFour(fill, 0, away + 1), 3);
            }
        }
    }

    private static void piecesOfOtherTiles() {
        AntennaFill fill = Layouts.withNets(1, 1);
        fill.bounds(0, 100, 100);
        Check.same("2 between tiles, a space of 2", fill.fill(0, 98, 2, 0), 100);
        Check.same("1 between tiles, a space of 1", fill.fill(0, 99, 1, 0), 100);
        Check.same("0 between tiles, a space of 0", fill.fill(0, 100, 0, 0), 100);
        fill.fill(0, 97, 4, 0);
        Check.same("2 between tiles, a space of 4: tile 1 lacks its left ones", fill.piece(0, 4, 0), 301);
        Check.same("and has both right ones", fill.piece(0, 5, 1), 101);
        Check.same("tile 2 as well", fill.piece(0, 6, 0), 501);
    }

    /** Tile 6 beside pieces of tile 0 or tile 2 alone: shapes fill the others around it, away is 0. */
    private static void piecesOfTilesAcrossACorner() {
        for (int from : new int[] {0, 200}) {
            AntennaFill fill = Layouts.withNets(1, 1);
            fill.bounds(0, 100, 100);
            fill.shape(0, 0, 200 - from, 0, 600 - from, 200);
            fill.shape(0, 0, 0, 200, 200, 400);
            fill.fill(0, 98, 2, 0);
            Check.same("2 across, a space of 2: four", fill.density(0, 200, 200, 0), 4 * 98 * 98 / 16);
            fill.fill(0, 97, 3, 0);
            Check.same("3 across, a space of 3: four", fill.density(0, 200, 200, 0), 4 * 97 * 97 / 4);
            fill.fill(0, 97, 4, 0);
            Check.same("2 across, a space of 4: three", fill.density(0, 200, 200, 0), 3 * 97 * 97);
            Check.same("of the window", fill.density(0, 200, 200, 1), 40000);
        }
    }

    private static void piecesOfOtherLayers() {
        AntennaFill fill = Layouts.withNets(2, 1);
        fill.bounds(0, 100, 100);
        fill.bounds(1, 1, 100);
        Check.same("layer 0 is full", fill.fill(0, 100, 0, 0), 100);
        Check.same("its pieces are none of layer 1", fill.fill(1, 100, 100, 100), 25);
        Check.same("the first at tile 0's corner", fill.piece(1, 0, 0), 0);
        Check.same("layer 0's stay", fill.count(4), 125);
    }

    private static void piecesOfTheSameTile() {
        AntennaFill fill = Layouts.withNets(1, 1);
        fill.bounds(0, 100, 100);
        fill.fill(0, 30, 70, 0);
        Check.same("second of the tile", fill.piece(0, 1, 0), 100);
        Check.same("third", fill.piece(0, 2, 1), 100);
        Check.same("fourth", fill.piece(0, 3, 0) + fill.piece(0, 3, 1), 200);
        Check.same("with no more between its own than the space, all four", fill.piece(0, 4, 0) >= 200, true);
    }

    private static void lastPlaceOfATile() {
        AntennaFill fill = Layouts.withNets(1, 1);
        fill.bounds(0, 100, 100);
        fill.fill(0, 40, 0, 0);
        Check.same("160 + 40 is within the tile", fill.piece(0, 4, 0), 160);
        Check.same("the next one is in the next row", fill.piece(0, 5, 1), 40);
        Check.same("25 in each tile", fill.count(4), 625);
        fill.fill(0, 41, 0, 0);
        Check.same("164 + 41 is not: 123 is the last", fill.piece(0, 3, 0), 123);
        Check.same("the next one is at the tile's left side", fill.piece(0, 4, 0), 0);
        Check.same("in the next row", fill.piece(0, 4, 1), 41);
        Check.same("16 in each tile", fill.count(4), 400);
        AntennaFill hole = Layouts.withNets(1, 1);
        hole.bounds(0, 100, 100);
        hole.shape(0, 0, 0, 0, 1000, 596);
        hole.shape(0, 0, 0, 600, 1000, 1000);
        hole.shape(0, 0, 0, 0, 596, 1000);
        hole.shape(0, 0, 600, 0, 1000, 1000);
        Check.same("tile 12 has room for one at its last place", hole.fill(0, 4, 0, 0), 1);
        Check.same("there", hole.piece(0, 0, 0) + hole.piece(0, 0, 1), 596 + 596);
        Check.same("which makes all full", hole.told(0), AntennaFill.NONE);
    }

    private static void densityAtTheBounds() {
        for (int area = 3999; area <= 4001; area++) {
            AntennaFill fill = Layouts.withNets(1, 1);
            fill.shape(0, 0, 0, 0, 39, 100);
            fill.shape(0, 0, 39, 0, 40, area - 3900);
            if (area > 4000) {
                fill.shape(0, 0, 40, 0, 41, 1);
            }
            fill.bounds(0, 0, 10);
            fill.fill(0, 20, 0, 0);
            Check.same(area + " of 40000, above 10 percent", fill.told(0), area > 4000 ? 0 : AntennaFill.NONE);
            fill.bounds(0, 10, 100);
            fill.fill(0, 100, 0, 100);
            Check.same(area + " of 40000, below 10 percent", fill.told(0) == 0, area < 4000);
            fill.fill(0, 20, 0, 0);
            Check.same(area + ", first piece", fill.piece(0, 0, 0), area < 4000 ? 40 : 200);
            Check.same(area + ", no tile is told", fill.told(0), AntennaFill.NONE);
        }
    }

    private static void ratioAtTheLimit() {
        for (int area = 999; area <= 1001; area++) {
            AntennaFill fill = Layouts.withNets(1, 1);
            fill.shape(0, 0, 0, 500, Math.min(area, 1000), 501);
            if (area > 1000) {
                fill.shape(0, 0, 0, 501, area - 1000, 502);
            }
            fill.gate(0, 3000);
            fill.limit(0, 1, 3);
            fill.repair();
            Check.same(area + " / 3000 is above 1 / 3", fill.count(3) > 0, area > 1000);
        }
    }

    private static void wideEnoughForSlots() {
        for (int w : new int[] {1, 2, 7, 100, 400}) {
            int just = 2 * w + 2;
            slotsOf(just, just, w, 1);
            slotsOf(just - 1, 1000, w, 0);
            slotsOf(1000, just - 1, w, 0);
            slotsOf(just, 1000, w, 1);
            slotsOf(1000, just, w, 1);
            int two = 3 * w + 4;
            if (two <= 1000) {
                slotsOf(two - 1, 1000, w, 1);
                slotsOf(two, 1000, w, 2);
                slotsOf(1000, two - 1, w, 1);
                slotsOf(1000, two, w, 2);
            }
        }
    }

    private static void slotsOf(int wide, int tall, int width, int due) {
        AntennaFill fill = Layouts.withNets(1, 1);
        fill.shape(0, 0, 0, 0, wide, tall);
        String what = "slots of width " + width + " in " + wide + " by " + tall;
        Check.same(what, fill.slot(0, width), due);
        if (due > 0) {
            boolean alongX = wide >= tall;
            int across = width + (due - 1) * (width + 2);
            int[] sides = {alongX ? width : across, alongX ? across : width,
                alongX ? wide - width : across + 2, alongX ? across + 2 : tall - width};
            for (int side = 0; side < 4; side++) {
                Check.same(what + ", side " + side + " of the last", fill.slotAt(0, width, due - 1, side), sides[side]);
            }
        }
        Check.same(what + ", no more", fill.slotAt(0, width, due, 0), AntennaFill.NONE);
    }

    private static void longerSide() {
        int[][] sizes = {{20, 20}, {20, 21}, {21, 20}};
        for (int[] size : sizes) {
            AntennaFill fill = Layouts.withNets(1, 1);
            fill.shape(0, 0, 300, 400, 300 + size[0], 400 + size[1]);
            boolean alongX = size[0] >= size[1];
            String what = size[0] + " by " + size[1];
            Check.same(what + ", greatest x of the first", fill.slotAt(0, 3, 0, 2), alongX ? 297 + size[0] : 305);
            Check.same(what + ", greatest y of the first", fill.slotAt(0, 3, 0, 3), alongX ? 405 : 397 + size[1]);
        }
    }
}
