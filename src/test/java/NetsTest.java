/** Promises 1 to 7 and 17: objects, nets, shapes, gates, diodes, ratios, limits, counts. */
final class NetsTest {
    private static final long HUGE = Long.MAX_VALUE;
    private static final long TINY = Long.MIN_VALUE;

    private NetsTest() {
    }

    public static void main(String[] args) {
        newObject();
        nets();
        shapes();
        shapesInPieces();
        shapeErrors();
        gates();
        diodes();
        ratios();
        limits();
        counts();
        Check.end();
    }

    private static void newObject() {
        Check.same("NONE", AntennaFill.NONE, -1);
        int[][] layersAndDue = {
            {Integer.MIN_VALUE, 1}, {-1, 1}, {0, 1}, {1, 1}, {2, 2}, {63, 63}, {64, 64}, {65, 64},
            {Integer.MAX_VALUE, 64}};
        for (int[] row : layersAndDue) {
            AntennaFill fill = new AntennaFill(row[0]);
            Check.same("last layer of " + row[0], fill.slot(row[1] - 1, 1), 0);
            Check.noIndex("layer beyond " + row[0], () -> fill.slot(row[1], 1));
            Check.same("no nets at first", fill.count(0), 0);
            Check.noIndex("net 0 at first", () -> fill.gate(0, 1));
        }
    }

    private static void nets() {
        AntennaFill fill = new AntennaFill(1);
        for (int n = 0; n < 40; n++) {
            Check.same("net()", fill.net(), n);
            Check.same("nets", fill.count(0), n + 1);
        }
        Check.noState("net 40", fill::net);
        Check.same("nets after the refusal", fill.count(0), 40);
        Check.same("the last net is there", fill.gate(39, 1), 1);
        AntennaFill other = new AntennaFill(1);
        Check.same("nets of another object", other.net(), 0);
    }

    private static void shapes() {
        AntennaFill fill = Layouts.withNets(2, 2);
        Check.same("first", fill.shape(0, 0, 10, 10, 20, 20), true);
        Check.same("the same again", fill.shape(0, 0, 10, 10, 20, 20), false);
        Check.same("within", fill.shape(0, 0, 12, 12, 13, 19), false);
        Check.same("on another layer", fill.shape(0, 1, 10, 10, 20, 20), true);
        Check.same("of another net", fill.shape(1, 0, 10, 10, 20, 20), true);
        Check.same("beside", fill.shape(0, 0, 20, 10, 30, 20), true);
        Check.same("over both", fill.shape(0, 0, 15, 10, 25, 20), false);
        Check.same("one column more", fill.shape(0, 0, 10, 10, 31, 20), true);
        Check.same("one row more", fill.shape(0, 0, 10, 9, 11, 20), true);
        Check.same("the whole plane", fill.shape(0, 0, 0, 0, 1000, 1000), true);
        Check.same("nothing is left", fill.shape(0, 0, 999, 999, 1000, 1000), false);
        Check.same("all are shapes", fill.count(1), 11);
    }

    private static void shapesInPieces() {
        AntennaFill fill = Layouts.withNets(1, 1);
        fill.shape(0, 0, 0, 0, 10, 4);
        fill.shape(0, 0, 0, 6, 10, 10);
        fill.shape(0, 0, 0, 4, 4, 6);
        fill.shape(0, 0, 6, 4, 10, 6);
        Check.same("the hole is fresh", fill.shape(0, 0, 0, 0, 10, 10), true);
        Check.same("now it is not", fill.shape(0, 0, 4, 4, 6, 6), false);
        fill.gate(0, 1);
        Check.same("area of the ring and its hole", fill.ratio(0, 0, 0), 100);
    }

    private static void shapeErrors() {
        AntennaFill fill = Layouts.withNets(2, 1);
        Check.noIndex("net -1", () -> fill.shape(-1, 0, 0, 0, 1, 1));
        Check.noIndex("net 1", () -> fill.shape(1, 0, 0, 0, 1, 1));
        Check.noIndex("layer -1", () -> fill.shape(0, -1, 0, 0, 1, 1));
        Check.noIndex("layer 2", () -> fill.shape(0, 2, 0, 0, 1, 1));
        Check.noIndex("index before range", () -> fill.shape(0, 2, 5, 5, 5, 5));
        long[][] bad = {
            {-1, 0, 1, 1}, {0, -1, 1, 1}, {0, 0, 1001, 1}, {0, 0, 1, 1001}, {5, 0, 5, 1}, {6, 0, 5, 1},
            {0, 5, 1, 5}, {0, 6, 1, 5}, {TINY, 0, 1, 1}, {0, TINY, 1, 1}, {0, 0, HUGE, 1}, {0, 0, 1, HUGE},
            {HUGE, 0, TINY, 1}, {0, HUGE, 1, TINY}, {4294967296L, 0, 4294967297L, 1}};
        for (long[] b : bad) {
            Check.noArgument("corners " + b[0] + " " + b[1] + " " + b[2] + " " + b[3],
                    () -> fill.shape(0, 0, b[0], b[1], b[2], b[3]));
        }
        Check.same("no shape was made", fill.count(1), 0);
        Check.same("nothing was covered", fill.shape(0, 0, 0, 0, 1000, 1000), true);
        for (int s = 1; s < 200; s++) {
            fill.shape(0, s % 2, s, s, s + 1, s + 1);
        }
        Check.same("shapes", fill.count(1), 200);
        Check.noState("shape 200", () -> fill.shape(0, 0, 0, 0, 1, 1));
        Check.noState("state before range", () -> fill.shape(0, 0, 5, 5, 5, 5));
        Check.noIndex("index before state", () -> fill.shape(0, 2, 0, 0, 1, 1));
        Check.same("shapes after the refusals", fill.count(1), 200);
    }

    private static void gates() {
        AntennaFill fill = Layouts.withNets(1, 2);
        Check.same("first gate", fill.gate(0, 1), 1);
        Check.same("largest gate", fill.gate(0, 1000000), 1000001);
        Check.same("gate of another net", fill.gate(1, 7), 7);
        Check.noIndex("net -1", () -> fill.gate(-1, 0));
        Check.noIndex("net 2", () -> fill.gate(2, 0));
        for (long area : new long[] {0, -1, 1000001, HUGE, TINY}) {
            Check.noArgument("area " + area, () -> fill.gate(0, area));
        }
        Check.same("refusals changed nothing", fill.gate(0, 1), 1000002);
    }

    private static void diodes() {
        AntennaFill fill = Layouts.withNets(3, 2);
        Check.same("first since 0", fill.diode(0, 0, 1), true);
        Check.same("second since 0", fill.diode(0, 0, 1000000), false);
        Check.same("first since 2", fill.diode(0, 2, 5), true);
        Check.same("first since 1", fill.diode(0, 1, 5), true);
        Check.same("first of another net", fill.diode(1, 0, 5), true);
        Check.noIndex("net -1", () -> fill.diode(-1, 0, 1));
        Check.noIndex("net 2", () -> fill.diode(2, 0, 1));
        Check.noIndex("layer -1", () -> fill.diode(0, -1, 1));
        Check.noIndex("layer 3", () -> fill.diode(0, 3, 0));
        for (long area : new long[] {0, -1, 1000001, HUGE, TINY}) {
            Check.noArgument("area " + area, () -> fill.diode(1, 1, area));
        }
        Check.same("told so far", fill.count(2), 5);
        Check.same("refusals changed nothing", fill.diode(1, 1, 1), true);
        for (int d = 6; d < 100; d++) {
            fill.diode(0, 0, 1);
        }
        Check.same("told", fill.count(2), 100);
        Check.noState("diode 100", () -> fill.diode(1, 2, 1));
        Check.noState("state before range", () -> fill.diode(1, 2, 0));
        Check.noIndex("index before state", () -> fill.diode(1, 3, 1));
        Check.same("told after the refusals", fill.count(2), 100);
        Check.same("none has a place", fill.count(3), 0);
    }

    private static void ratios() {
        AntennaFill fill = Layouts.withNets(3, 2);
        fill.shape(0, 0, 0, 0, 10, 10);
        fill.shape(0, 0, 5, 5, 15, 15);
        fill.shape(0, 2, 0, 0, 3, 1);
        Layouts.ratioIs(fill, 0, 2, 0, 1);
        fill.diode(0, 1, 10);
        Layouts.ratioIs(fill, 0, 2, 0, 1);
        fill.gate(0, 35);
        Layouts.ratioIs(fill, 0, 0, 5, 1);
        Layouts.ratioIs(fill, 0, 1, 35, 23);
        Layouts.ratioIs(fill, 0, 2, 178, 115);
        fill.diode(0, 2, 2);
        Layouts.ratioIs(fill, 0, 2, 178, 131);
        Layouts.ratioIs(fill, 0, 1, 35, 23);
        fill.gate(1, 8);
        Layouts.ratioIs(fill, 1, 2, 0, 1);
        fill.shape(1, 1, 0, 0, 1000, 1000);
        Layouts.ratioIs(fill, 1, 0, 0, 1);
        Layouts.ratioIs(fill, 1, 1, 125000, 1);
        Check.noIndex("net -1", () -> fill.ratio(-1, 0, 0));
        Check.noIndex("net 2", () -> fill.ratio(2, 0, 0));
        Check.noIndex("layer -1", () -> fill.ratio(0, -1, 0));
        Check.noIndex("layer 3", () -> fill.ratio(0, 3, 0));
        Check.noIndex("part -1", () -> fill.ratio(0, 0, -1));
        Check.noIndex("part 2", () -> fill.ratio(0, 0, 2));
        AntennaFill all = Layouts.withNets(64, 1);
        all.gate(0, 3);
        for (int layer = 0; layer < 64; layer++) {
            all.shape(0, layer, 0, 0, 1000, 1000);
        }
        Layouts.ratioIs(all, 0, 62, 21000000, 1);
        Layouts.ratioIs(all, 0, 63, 64000000, 3);
    }

    private static void limits() {
        AntennaFill fill = Layouts.withNets(2, 1);
        Check.same("first, though it is 0", fill.limit(0, 0, 5), true);
        Check.same("0 again", fill.limit(0, 0, 1000000), false);
        Check.same("another", fill.limit(0, 2, 4), true);
        Check.same("the same number", fill.limit(0, 500000, 1000000), false);
        Check.same("a little more", fill.limit(0, 500001, 1000000), true);
        Check.same("first of the other layer", fill.limit(1, 500001, 1000000), true);
        Check.same("largest", fill.limit(1, 1000000, 1), true);
        Check.noIndex("layer -1", () -> fill.limit(-1, 1, 1));
        Check.noIndex("layer 2", () -> fill.limit(2, -1, 0));
        long[][] bad = {{-1, 1}, {1000001, 1}, {1, 0}, {1, -1}, {1, 1000001}, {TINY, 1}, {HUGE, 1}, {1, TINY}, {1, HUGE}};
        for (long[] b : bad) {
            Check.noArgument("limit " + b[0] + " / " + b[1], () -> fill.limit(0, b[0], b[1]));
        }
        Check.same("refusals changed nothing", fill.limit(0, 500001, 1000000), false);
    }

    private static void counts() {
        AntennaFill fill = Layouts.withNets(1, 3);
        for (int what = 0; what < 5; what++) {
            Check.same("count of " + what, fill.count(what), what == 0 ? 3 : 0);
        }
        fill.shape(0, 0, 100, 100, 110, 110);
        fill.shape(0, 0, 100, 100, 110, 110);
        fill.diode(1, 0, 1);
        fill.gate(0, 100);
        fill.limit(0, 1, 4);
        fill.repair();
        fill.bounds(0, 1, 100);
        fill.fill(0, 20, 0, 0);
        long[] due = {3, 2, 1, 3, 25};
        for (int what = 0; what < 5; what++) {
            Check.same("count of " + what + " then", fill.count(what), due[what]);
        }
        Check.noIndex("what -1", () -> fill.count(-1));
        Check.noIndex("what 5", () -> fill.count(5));
    }
}
