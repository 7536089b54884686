/** Promises 15 and 16: slot, slotAt. */
final class SlotsTest {
    private SlotsTest() {
    }

    public static void main(String[] args) {
        wideShape();
        highShape();
        squareShape();
        edges();
        severalShapes();
        errors();
        Check.end();
    }

    private static AntennaFill withShape(long x0, long y0, long x1, long y1) {
        AntennaFill fill = new AntennaFill(2);
        fill.net();
        fill.net();
        fill.shape(0, 0, x0, y0, x1, y1);
        return fill;
    }

    private static void slotIs(AntennaFill fill, int layer, long width, int k, int... due) {
        for (int side = 0; side < 4; side++) {
            Check.same("slotAt(" + layer + ", " + width + ", " + k + ", " + side + ")",
                    fill.slotAt(layer, width, k, side), due[side]);
        }
    }

    private static void wideShape() {
        AntennaFill fill = withShape(100, 200, 200, 213);
        Check.same("3 2 3 2 3", fill.slot(0, 3), 2);
        slotIs(fill, 0, 3, 0, 103, 203, 197, 205);
        slotIs(fill, 0, 3, 1, 103, 208, 197, 210);
        slotIs(fill, 0, 3, 2, -1, -1, -1, -1);
        slotIs(fill, 0, 3, -1, -1, -1, -1, -1);
    }

    private static void highShape() {
        AntennaFill fill = withShape(100, 200, 114, 300);
        Check.same("3 2 3 2 and 4 behind", fill.slot(0, 3), 2);
        slotIs(fill, 0, 3, 0, 103, 203, 105, 297);
        slotIs(fill, 0, 3, 1, 108, 203, 110, 297);
    }

    private static void squareShape() {
        AntennaFill fill = withShape(0, 0, 10, 10);
        Check.same("along x", fill.slot(0, 2), 2);
        slotIs(fill, 0, 2, 0, 2, 2, 8, 4);
        slotIs(fill, 0, 2, 1, 2, 6, 8, 8);
        AntennaFill one = withShape(0, 0, 10, 11);
        slotIs(one, 0, 2, 1, 6, 2, 8, 9);
    }

    private static void edges() {
        AntennaFill fill = withShape(0, 0, 1000, 1000);
        Check.same("the widest", fill.slot(0, 400), 1);
        slotIs(fill, 0, 400, 0, 400, 400, 600, 402);
        Check.same("the least", fill.slot(0, 1), 333);
        slotIs(fill, 0, 1, 332, 1, 997, 999, 999);
        AntennaFill just = withShape(0, 0, 50, 12);
        Check.same("2 W + 2", just.slot(0, 5), 1);
        Check.same("less than that", just.slot(0, 6), 0);
        AntennaFill both = withShape(0, 0, 802, 802);
        Check.same("both just enough", both.slot(0, 400), 1);
        Check.same("one short", withShape(0, 0, 802, 801).slot(0, 400), 0);
        Check.same("other one short", withShape(0, 0, 801, 802).slot(0, 400), 0);
    }

    private static void severalShapes() {
        AntennaFill fill = withShape(500, 500, 520, 508);
        fill.shape(1, 1, 0, 0, 100, 100);
        fill.shape(1, 0, 0, 0, 4, 900);
        fill.shape(1, 0, 10, 10, 22, 30);
        fill.shape(0, 0, 500, 500, 520, 508);
        Check.same("1, 0, 2 and 1", fill.slot(0, 2), 1 + 0 + 2 + 1);
        slotIs(fill, 0, 2, 0, 502, 502, 518, 504);
        slotIs(fill, 0, 2, 1, 12, 12, 14, 28);
        slotIs(fill, 0, 2, 2, 16, 12, 18, 28);
        slotIs(fill, 0, 2, 3, 502, 502, 518, 504);
        slotIs(fill, 0, 2, 4, -1, -1, -1, -1);
        Check.same("the other layer", fill.slot(1, 2), 24);
        slotIs(fill, 1, 2, 23, 2, 94, 98, 96);
    }

    private static void errors() {
        AntennaFill fill = withShape(0, 0, 100, 100);
        Check.noIndex("slot, layer -1", () -> fill.slot(-1, 1));
        Check.noIndex("slot, layer 2", () -> fill.slot(2, 0));
        Check.noIndex("slotAt, layer -1", () -> fill.slotAt(-1, 1, 0, 0));
        Check.noIndex("slotAt, layer 2", () -> fill.slotAt(2, 0, 0, 0));
        Check.noIndex("slotAt, side -1", () -> fill.slotAt(0, 1, 0, -1));
        Check.noIndex("slotAt, side 4", () -> fill.slotAt(0, 0, -1, 4));
        for (long bad : new long[] {0, -1, 401, Long.MAX_VALUE, Long.MIN_VALUE, 4294967297L}) {
            Check.noArgument("slot, width " + bad, () -> fill.slot(0, bad));
            Check.noArgument("slotAt, width " + bad, () -> fill.slotAt(0, bad, 0, 0));
            Check.noArgument("slotAt, width before k", () -> fill.slotAt(0, bad, -1, 0));
        }
        slotIs(fill, 0, 1, Integer.MAX_VALUE, -1, -1, -1, -1);
        slotIs(fill, 0, 1, Integer.MIN_VALUE, -1, -1, -1, -1);
        slotIs(fill, 1, 1, 0, -1, -1, -1, -1);
        Check.same("no slots on layer 1", fill.slot(1, 1), 0);
    }
}
