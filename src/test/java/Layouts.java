/** Objects that tests begin with, and checks of answers that come in parts. */
final class Layouts {
    private Layouts() {
    }

    static AntennaFill withNets(int layers, int nets) {
        AntennaFill fill = new AntennaFill(layers);
        for (int n = 0; n < nets; n++) {
            fill.net();
        }
        return fill;
    }

    static AntennaFill withNet(int layers) {
        return withNets(layers, 1);
    }

    static void ratioIs(AntennaFill fill, int net, int layer, long upper, long lower) {
        String what = "ratio(" + net + ", " + layer + ", ";
        Check.same(what + "0)", fill.ratio(net, layer, 0), upper);
        Check.same(what + "1)", fill.ratio(net, layer, 1), lower);
    }

    static void densityIs(AntennaFill fill, int layer, long x, long y, long upper, long lower) {
        String what = "density(" + layer + ", " + x + ", " + y + ", ";
        Check.same(what + "0)", fill.density(layer, x, y, 0), upper);
        Check.same(what + "1)", fill.density(layer, x, y, 1), lower);
    }

    static void pieceIs(AntennaFill fill, int layer, int k, long x, long y) {
        Check.same("piece(" + layer + ", " + k + ", 0)", fill.piece(layer, k, 0), x);
        Check.same("piece(" + layer + ", " + k + ", 1)", fill.piece(layer, k, 1), y);
    }

    static void diodeIs(AntennaFill fill, int k, int net, int since, int x, int y) {
        int[] due = {net, since, x, y};
        for (int what = 0; what < 4; what++) {
            Check.same("repaired(" + k + ", " + what + ")", fill.repaired(k, what), due[what]);
        }
    }
}
