/** Promises 10 to 14: density, bounds, fill, piece, told. */
final class FillTest {
    private static final long HUGE = Long.MAX_VALUE;
    private static final long TINY = Long.MIN_VALUE;

    private FillTest() {
    }

    public static void main(String[] args) {
        densities();
        densityErrors();
        bounds();
        places();
        awayFromShapes();
        awayFromDiodes();
        spaceBetweenTiles();
        stopsAtTheBound();
        mostPieces();
        toldTiles();
        fillErrors();
        pieceErrors();
        Check.end();
    }

    private static void densities() {
        AntennaFill fill = Layouts.withNet(2);
        fill.net();
        Layouts.densityIs(fill, 0, 0, 0, 0, 1);
        fill.shape(0, 0, 190, 190, 210, 210);
        fill.shape(1, 0, 190, 190, 200, 210);
        Layouts.densityIs(fill, 0, 0, 0, 1, 400);
        Layouts.densityIs(fill, 0, 10, 10, 1, 100);
        Layouts.densityIs(fill, 0, 200, 0, 1, 400);
        Layouts.densityIs(fill, 0, 210, 0, 0, 1);
        Layouts.densityIs(fill, 0, 209, 209, 1, 40000);
        Layouts.densityIs(fill, 1, 0, 0, 0, 1);
        fill.shape(1, 1, 0, 0, 1000, 1000);
        Layouts.densityIs(fill, 1, 800, 800, 1, 1);
        fill.bounds(0, 1, 100);
        fill.fill(0, 100, 0, 0);
        Layouts.densityIs(fill, 0, 400, 400, 1, 4);
        Layouts.densityIs(fill, 0, 450, 450, 1, 4);
        fill.shape(0, 0, 400, 400, 410, 410);
        Layouts.densityIs(fill, 0, 400, 400, 1, 4);
    }

    private static void densityErrors() {
        AntennaFill fill = new AntennaFill(1);
        Layouts.densityIs(fill, 0, 800, 800, 0, 1);
        Check.noIndex("layer -1", () -> fill.density(-1, 0, 0, 0));
        Check.noIndex("layer 1", () -> fill.density(1, 0, 0, 0));
        Check.noIndex("part -1", () -> fill.density(0, 0, 0, -1));
        Check.noIndex("part 2, x beyond too", () -> fill.density(0, -1, 0, 2));
        for (long bad : new long[] {-1, 801, HUGE, TINY, 4294967296L}) {
            Check.noArgument("x " + bad, () -> fill.density(0, bad, 0, 0));
            Check.noArgument("y " + bad, () -> fill.density(0, 0, bad, 0));
        }
    }

    private static void bounds() {
        AntennaFill fill = new AntennaFill(2);
        Check.same("those at first", fill.bounds(0, 0, 100), false);
        Check.same("another lower one", fill.bounds(0, 1, 100), true);
        Check.same("another upper one", fill.bounds(0, 1, 99), true);
        Check.same("the same", fill.bounds(0, 1, 99), false);
        Check.same("both alike", fill.bounds(0, 50, 50), true);
        Check.same("the other layer has its own", fill.bounds(1, 0, 100), false);
        Check.noIndex("layer -1", () -> fill.bounds(-1, 0, 100));
        Check.noIndex("layer 2", () -> fill.bounds(2, 5, 4));
        int[][] bad = {{-1, 50}, {50, 101}, {51, 50}, {101, 101}, {-2, -1}, {0, -1}, {100, 99},
            {Integer.MIN_VALUE, Integer.MAX_VALUE}};
        for (int[] b : bad) {
            Check.noArgument("bounds " + b[0] + " " + b[1], () -> fill.bounds(0, b[0], b[1]));
        }
        Check.same("refusals changed nothing", fill.bounds(0, 50, 50), false);
    }

    private static void places() {
        AntennaFill fill = Layouts.withNet(1);
        Check.same("lower bound 0 asks for nothing", fill.fill(0, 4, 0, 0), 0);
        fill.bounds(0, 100, 100);
        Check.same("two in a row of a tile, four tiles in all", fill.fill(0, 90, 10, 0), 100);
        Layouts.pieceIs(fill, 0, 0, 0, 0);
        Layouts.pieceIs(fill, 0, 1, 100, 0);
        Layouts.pieceIs(fill, 0, 2, 0, 100);
        Layouts.pieceIs(fill, 0, 3, 100, 100);
        Layouts.pieceIs(fill, 0, 4, 200, 0);
        Layouts.pieceIs(fill, 0, 20, 0, 200);
        Layouts.pieceIs(fill, 0, 99, 900, 900);
        Check.same("the last one ends with the tile", fill.fill(0, 100, 0, 100), 100);
        Check.same("one beyond the tile is no place", fill.fill(0, 100, 1, 0), 25);
        Check.same("three in a row, in later tiles without the first", fill.fill(0, 40, 40, 0), 121);
        Layouts.pieceIs(fill, 0, 2, 160, 0);
        Layouts.pieceIs(fill, 0, 9, 280, 0);
        Check.same("all are one layer's", fill.count(4), 121);
    }

    private static void awayFromShapes() {
        AntennaFill fill = Layouts.withNet(2);
        fill.bounds(0, 100, 100);
        fill.bounds(1, 100, 100);
        fill.shape(0, 0, 110, 0, 111, 1);
        Check.same("just 10 away", fill.fill(0, 100, 0, 10), 99);
        Layouts.pieceIs(fill, 0, 0, 0, 0);
        Layouts.pieceIs(fill, 0, 1, 0, 100);
        Check.same("11 is too much", fill.fill(0, 100, 0, 11), 98);
        Layouts.pieceIs(fill, 0, 0, 0, 100);
        Check.same("99 above and 88 to the right", fill.fill(0, 100, 0, 90), 97);
        Check.same("above it too", fill.fill(0, 100, 0, 100), 94);
        Check.same("other layers do not mind", fill.fill(1, 100, 0, 100), 100);
        Check.same("pieces of both", fill.count(4), 194);
        Layouts.pieceIs(fill, 1, 0, 0, 0);
    }

    private static void awayFromDiodes() {
        AntennaFill fill = Layouts.withNet(2);
        fill.gate(0, 1);
        fill.shape(0, 1, 0, 0, 1, 1);
        fill.limit(1, 1, 100);
        fill.repair();
        Check.same("one diode at 2, 2", fill.count(3), 1);
        fill.bounds(0, 100, 100);
        fill.bounds(1, 100, 100);
        Check.same("a piece less", fill.fill(0, 100, 0, 94), 99);
        Check.same("three less", fill.fill(0, 100, 0, 95), 96);
        Check.same("on layer 1 there is none", fill.fill(1, 100, 0, 94), 99);
        Check.same("but a shape at 0", fill.fill(1, 100, 0, 99), 99);
        Check.same("100 away", fill.fill(1, 100, 0, 100), 96);
    }

    private static void spaceBetweenTiles() {
        AntennaFill fill = Layouts.withNet(1);
        fill.bounds(0, 20, 100);
        Check.same("every other tile and row", fill.fill(0, 100, 100, 0), 25);
        fill.bounds(0, 100, 100);
        Check.same("90 + 20 + 90 is the tile's side", fill.fill(0, 90, 20, 0), 36);
        Layouts.pieceIs(fill, 0, 4, 310, 0);
        Layouts.pieceIs(fill, 0, 5, 310, 110);
        Check.same("a place further there is none", fill.fill(0, 90, 21, 0), 25);
        Check.same("98 + 4 + 98 too", fill.fill(0, 98, 4, 0), 36);
        Check.same("space 2 reaches from 98 + 2 just to 200", fill.fill(0, 98, 2, 0), 100);
        Check.same("a space of 1 and no gap at the tile's side", fill.fill(0, 66, 1, 0), 121);
        Check.same("pieces beside the last tile's", fill.fill(0, 50, 0, 0), 400);
        Check.same("a gap of 3 is too little", fill.fill(0, 63, 4, 0), 121);
        Check.same("one of 4 is enough", fill.fill(0, 94, 4, 0), 100);
    }

    private static void stopsAtTheBound() {
        AntennaFill fill = Layouts.withNet(1);
        fill.bounds(0, 1, 100);
        Check.same("just 1 percent", fill.fill(0, 20, 0, 0), 25);
        fill.bounds(0, 2, 100);
        Check.same("just 2 percent", fill.fill(0, 20, 0, 0), 50);
        Check.same("441 is above 1 percent", fill.fill(0, 21, 0, 0), 50);
        fill.shape(0, 0, 0, 0, 40, 20);
        Check.same("the first tile has it", fill.fill(0, 20, 0, 0), 48);
        Layouts.pieceIs(fill, 0, 0, 200, 0);
        fill.bounds(0, 0, 100);
        Check.same("its pieces are gone", fill.fill(0, 20, 0, 0), 0);
        Check.same("all", fill.count(4), 0);
    }

    private static void mostPieces() {
        AntennaFill fill = Layouts.withNet(3);
        for (int layer = 0; layer < 3; layer++) {
            fill.bounds(layer, 100, 100);
        }
        Check.same("some on layer 1", fill.fill(1, 100, 0, 0), 100);
        Check.same("the rest on layer 0", fill.fill(0, 4, 0, 0), 1400);
        Check.same("in all", fill.count(4), 1500);
        Layouts.pieceIs(fill, 0, 1399, 196, 27 * 4);
        Check.same("no more", fill.fill(2, 100, 0, 0), 0);
        Check.same("all tiles are told", fill.told(24), 24);
        Check.same("again: its own are gone first", fill.fill(1, 100, 0, 0), 100);
        Check.same("other pieces stay", fill.piece(0, 1399, 1), 108);
        fill.bounds(1, 0, 100);
        fill.fill(1, 100, 0, 0);
        Check.same("room again", fill.fill(2, 100, 0, 0), 100);
        Layouts.pieceIs(fill, 2, 99, 900, 900);
        Layouts.pieceIs(fill, 0, 0, 0, 0);
    }

    private static void toldTiles() {
        AntennaFill fill = Layouts.withNet(2);
        Check.same("no fill yet", fill.told(0), AntennaFill.NONE);
        fill.bounds(0, 0, 49);
        fill.shape(0, 0, 200, 0, 400, 98);
        fill.shape(0, 0, 0, 200, 200, 299);
        fill.fill(0, 10, 0, 0);
        Check.same("49 percent is not above, 49.5 is", fill.told(0), 5);
        Check.same("no other", fill.told(1), AntennaFill.NONE);
        fill.bounds(0, 50, 100);
        fill.fill(0, 100, 100, 0);
        Check.same("tile 0", fill.told(0), 0);
        Check.same("tile 1", fill.told(1), 1);
        Check.same("tile 5", fill.told(5), 5);
        Check.same("tile 24", fill.told(24), 24);
        Check.same("no more", fill.told(25), AntennaFill.NONE);
        Check.same("far beyond", fill.told(Integer.MAX_VALUE), AntennaFill.NONE);
        Check.noArgument("a fill that is refused", () -> fill.fill(0, 3, 0, 0));
        Check.same("changes nothing", fill.told(24), 24);
        fill.shape(0, 0, 600, 0, 800, 200);
        fill.fill(0, 100, 0, 0);
        Check.same("two pieces are enough", fill.told(0), AntennaFill.NONE);
        fill.fill(0, 50, 100, 0);
        int[] due = {0, 2, 4, 6};
        for (int k = 0; k < due.length; k++) {
            Check.same("tiles 1, 3 and 5 have shapes, told(" + k + ")", fill.told(k), due[k]);
        }
        fill.fill(1, 100, 0, 0);
        Check.same("the latest one's, on another layer", fill.told(0), AntennaFill.NONE);
        Check.noIndex("k -1", () -> fill.told(-1));
        Check.noIndex("k least", () -> fill.told(Integer.MIN_VALUE));
    }

    private static void fillErrors() {
        AntennaFill fill = Layouts.withNet(1);
        fill.bounds(0, 1, 100);
        fill.fill(0, 100, 100, 100);
        Check.noIndex("layer -1", () -> fill.fill(-1, 10, 0, 0));
        Check.noIndex("layer 1, size too", () -> fill.fill(1, 0, 0, 0));
        for (long bad : new long[] {-1, 101, HUGE, TINY, 4294967306L}) {
            Check.noArgument("size " + bad, () -> fill.fill(0, bad, 0, 0));
            Check.noArgument("space " + bad, () -> fill.fill(0, 10, bad, 0));
            Check.noArgument("away " + bad, () -> fill.fill(0, 10, 0, bad));
        }
        Check.noArgument("size 3", () -> fill.fill(0, 3, 0, 0));
        Check.same("refusals changed nothing", fill.count(4), 25);
        Check.same("smallest", fill.fill(0, 4, 0, 0), 625);
    }

    private static void pieceErrors() {
        AntennaFill fill = Layouts.withNet(2);
        fill.bounds(1, 1, 100);
        fill.fill(1, 100, 0, 0);
        Layouts.pieceIs(fill, 1, 24, 800, 800);
        Check.noIndex("layer -1", () -> fill.piece(-1, 0, 0));
        Check.noIndex("layer 2", () -> fill.piece(2, 0, 0));
        Check.noIndex("k -1", () -> fill.piece(1, -1, 0));
        Check.noIndex("k 25", () -> fill.piece(1, 25, 0));
        Check.noIndex("none on layer 0", () -> fill.piece(0, 0, 0));
        Check.noIndex("axis -1", () -> fill.piece(1, 0, -1));
        Check.noIndex("axis 2", () -> fill.piece(1, 0, 2));
    }
}
