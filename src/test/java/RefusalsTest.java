import java.util.ArrayList;
import java.util.List;

/**
 * All promises: each call that is refused throws what the document names, the one named first when several would
 * do, and leaves all answers as those of a twin that was not called so.
 */
final class RefusalsTest {
    private static final int LAYERS = 2;
    private static final int NETS = 3;
    private static final int MOST_CALLS = 512;
    private static final int[] NO_INDEX = {-1, Integer.MIN_VALUE, Integer.MAX_VALUE};
    // least and greatest long, and what is 1 and 0 once it is cut to an int
    private static final long[] FAR = {Long.MIN_VALUE, Long.MAX_VALUE, 4294967297L, -4294967296L};

    private interface Call {
        Object of(AntennaFill fill);
    }

    private final String state;
    private final List<Call> before;
    private final List<Object> due;

    private RefusalsTest(String state, List<Call> before) {
        this.state = state;
        this.before = before;
        due = answers(made());
        Check.same("calls of one object, " + state, before.size() + 1 + due.size() <= MOST_CALLS, true);
    }

    public static void main(String[] args) {
        RefusalsTest usual = new RefusalsTest("usual", usual());
        usual.isRich();
        usual.shapes();
        usual.gates();
        usual.diodes();
        usual.ratios();
        usual.limits();
        usual.repaired();
        usual.densities();
        usual.bounds();
        usual.fills();
        usual.pieces();
        usual.toldTiles();
        usual.slots();
        usual.slotsAt();
        usual.counts();
        fullOfNets();
        fullOfShapes();
        fullOfDiodes();
        withoutAnything();
        Check.end();
    }

    private static List<Call> usual() {
        List<Call> calls = new ArrayList<>();
        for (int n = 0; n < NETS; n++) {
            calls.add(f -> f.net());
        }
        calls.add(f -> f.shape(0, 0, 100, 100, 160, 112));
        calls.add(f -> f.shape(0, 1, 300, 300, 340, 330));
        calls.add(f -> f.shape(1, 0, 500, 500, 560, 560));
        calls.add(f -> f.shape(1, 1, 520, 520, 600, 540));
        calls.add(f -> f.shape(2, 1, 700, 700, 701, 701));
        calls.add(f -> f.gate(0, 10));
        calls.add(f -> f.gate(1, 100));
        calls.add(f -> f.diode(0, 1, 5));
        calls.add(f -> f.diode(1, 0, 7));
        calls.add(f -> f.limit(0, 4, 1));
        calls.add(f -> f.limit(1, 8, 3));
        calls.add(f -> f.bounds(0, 1, 2));
        calls.add(f -> f.bounds(1, 0, 2));
        calls.add(f -> f.repair());
        calls.add(f -> f.fill(0, 20, 5, 3));
        return calls;
    }

    private static List<Call> questions() {
        List<Call> calls = new ArrayList<>();
        for (int what = 0; what < 5; what++) {
            int w = what;
            calls.add(f -> f.count(w));
        }
        for (int n = 0; n < NETS; n++) {
            for (int l = 0; l < LAYERS; l++) {
                int net = n;
                int layer = l;
                calls.add(f -> f.ratio(net, layer, 0));
                calls.add(f -> f.ratio(net, layer, 1));
            }
        }
        for (int k : new int[] {0, 1, 5, 14}) {
            for (int what = 0; what < 4; what++) {
                int w = what;
                calls.add(f -> f.repaired(k, w));
            }
        }
        for (int l = 0; l < LAYERS; l++) {
            int layer = l;
            calls.add(f -> f.density(layer, 90, 90, 0));
            calls.add(f -> f.density(layer, 400, 400, 0));
            calls.add(f -> f.density(layer, 400, 400, 1));
            for (int k : new int[] {0, 1, 22, 23, 25}) {
                calls.add(f -> f.piece(layer, k, 0));
                calls.add(f -> f.piece(layer, k, 1));
            }
            for (int width = 1; width <= 3; width++) {
                int w = width;
                calls.add(f -> f.slot(layer, w));
                calls.add(f -> f.slotAt(layer, w, 3, w));
            }
        }
        for (int k = 0; k < 4; k++) {
            int tile = k;
            calls.add(f -> f.told(tile));
        }
        return calls;
    }

    /** Questions, calls whose answers tell what was there before them, and the questions again. */
    private static List<Call> probes() {
        List<Call> calls = questions();
        calls.add(f -> f.limit(0, 4, 1));
        calls.add(f -> f.limit(1, 8, 3));
        calls.add(f -> f.bounds(0, 1, 2));
        calls.add(f -> f.bounds(1, 0, 2));
        for (int n = 0; n < NETS; n++) {
            int net = n;
            calls.add(f -> f.gate(net, 1));
            calls.add(f -> f.diode(net, 0, 1));
            calls.add(f -> f.diode(net, 1, 1));
            calls.add(f -> f.shape(net, 0, 0, 0, 1, 1));
        }
        calls.add(f -> f.net());
        calls.add(f -> f.limit(0, 3, 1));
        calls.add(f -> f.repair());
        calls.add(f -> f.fill(0, 20, 5, 3));
        calls.addAll(questions());
        return calls;
    }

    private static Object answer(AntennaFill fill, Call call) {
        try {
            return call.of(fill);
        } catch (RuntimeException e) {
            return e.getClass();
        }
    }

    private static List<Object> answers(AntennaFill fill) {
        List<Object> answers = new ArrayList<>();
        for (Call call : probes()) {
            answers.add(answer(fill, call));
        }
        return answers;
    }

    private AntennaFill made() {
        AntennaFill fill = new AntennaFill(LAYERS);
        for (Call call : before) {
            call.of(fill);
        }
        return fill;
    }

    private void unchanged(String what, AntennaFill fill) {
        List<Object> got = answers(fill);
        for (int a = 0; a < due.size(); a++) {
            Check.same(what + ", " + state + ", then answer " + a + " is " + got.get(a) + ", the twin's " + due.get(a),
                    got.get(a).equals(due.get(a)), true);
        }
    }

    private void index(String what, Call call) {
        AntennaFill fill = made();
        Check.noIndex(what + ", " + state, () -> call.of(fill));
        unchanged(what, fill);
    }

    private void state(String what, Call call) {
        AntennaFill fill = made();
        Check.noState(what + ", " + state, () -> call.of(fill));
        unchanged(what, fill);
    }

    private void argument(String what, Call call) {
        AntennaFill fill = made();
        Check.noArgument(what + ", " + state, () -> call.of(fill));
        unchanged(what, fill);
    }

    private static int[] notBelow(int size) {
        return new int[] {NO_INDEX[0], NO_INDEX[1], NO_INDEX[2], size};
    }

    private static long[] beyond(long least, long most) {
        return new long[] {least - 1, most + 1, FAR[0], FAR[1], FAR[2], FAR[3]};
    }

    /** The state has something of all that a refused call could spoil. */
    private void isRich() {
        AntennaFill fill = made();
        Check.same("diodes placed", fill.count(3) > 5, true);
        Check.same("pieces", fill.count(4) > 20, true);
        Check.same("a tile told", fill.told(0) >= 0, true);
        Check.same("slots", fill.slot(0, 3) > 3, true);
    }

    private void shapes() {
        for (int net : notBelow(NETS)) {
            index("shape of net " + net, f -> f.shape(net, 0, 0, 0, 1, 1));
            index("shape of net " + net + ", corners too", f -> f.shape(net, 0, 5, 5, 5, 1001));
        }
        for (int layer : notBelow(LAYERS)) {
            index("shape on layer " + layer, f -> f.shape(0, layer, 0, 0, 1, 1));
            index("shape on layer " + layer + ", corners too", f -> f.shape(0, layer, -1, 5, 5, 4));
        }
        for (long bad : beyond(0, 1000)) {
            argument("x0 " + bad, f -> f.shape(0, 0, bad, 0, 1000, 1000));
            argument("y0 " + bad, f -> f.shape(0, 0, 0, bad, 1000, 1000));
            argument("x1 " + bad, f -> f.shape(0, 0, 0, 0, bad, 1000));
            argument("y1 " + bad, f -> f.shape(0, 0, 0, 0, 1000, bad));
        }
        argument("x1 is x0", f -> f.shape(0, 0, 5, 0, 5, 1));
        argument("x1 is below x0", f -> f.shape(0, 0, 6, 0, 5, 1));
        argument("y1 is y0", f -> f.shape(0, 0, 0, 5, 1, 5));
        argument("y1 is below y0", f -> f.shape(0, 0, 0, 6, 1, 5));
        argument("a point at the least corner", f -> f.shape(0, 0, 0, 0, 0, 0));
        argument("a point at the greatest corner", f -> f.shape(0, 0, 1000, 1000, 1000, 1000));
    }

    private void gates() {
        for (int net : notBelow(NETS)) {
            index("gate of net " + net, f -> f.gate(net, 1));
            index("gate of net " + net + ", area too", f -> f.gate(net, 0));
        }
        for (long bad : beyond(1, 1000000)) {
            argument("gate of " + bad, f -> f.gate(0, bad));
            argument("first gate of " + bad, f -> f.gate(2, bad));
        }
    }

    private void diodes() {
        for (int net : notBelow(NETS)) {
            index("diode of net " + net, f -> f.diode(net, 0, 1));
            index("diode of net " + net + ", area too", f -> f.diode(net, 0, 0));
        }
        for (int layer : notBelow(LAYERS)) {
            index("diode since layer " + layer, f -> f.diode(0, layer, 1));
            index("diode since layer " + layer + ", area too", f -> f.diode(0, layer, 1000001));
        }
        for (long bad : beyond(1, 1000000)) {
            argument("diode of " + bad, f -> f.diode(0, 1, bad));
            argument("first diode of " + bad, f -> f.diode(2, 1, bad));
        }
    }

    private void ratios() {
        for (int net : notBelow(NETS)) {
            index("ratio of net " + net, f -> f.ratio(net, 0, 0));
        }
        for (int layer : notBelow(LAYERS)) {
            index("ratio at layer " + layer, f -> f.ratio(0, layer, 0));
            index("ratio without gates at layer " + layer, f -> f.ratio(2, layer, 1));
        }
        for (int part : notBelow(2)) {
            index("ratio's part " + part, f -> f.ratio(0, 0, part));
            index("part " + part + " of a ratio without gates", f -> f.ratio(2, 0, part));
        }
    }

    private void limits() {
        for (int layer : notBelow(LAYERS)) {
            index("limit of layer " + layer, f -> f.limit(layer, 1, 1));
            index("limit of layer " + layer + ", numbers too", f -> f.limit(layer, -1, 0));
        }
        for (long bad : beyond(0, 1000000)) {
            argument("limit " + bad + " / 1", f -> f.limit(0, bad, 1));
        }
        for (long bad : beyond(1, 1000000)) {
            argument("limit 1 / " + bad, f -> f.limit(0, 1, bad));
        }
        argument("a limit of two numbers below 0", f -> f.limit(0, -4, -1));
    }

    private void repaired() {
        int placed = made().count(3);
        for (int k : notBelow(placed)) {
            index("repaired " + k, f -> f.repaired(k, 0));
        }
        for (int what : notBelow(4)) {
            index("what " + what + " of the first diode", f -> f.repaired(0, what));
            index("what " + what + " of the last diode", f -> f.repaired(placed - 1, what));
        }
    }

    private void densities() {
        for (int layer : notBelow(LAYERS)) {
            index("density on layer " + layer, f -> f.density(layer, 0, 0, 0));
            index("density on layer " + layer + ", x and y too", f -> f.density(layer, -1, 801, 0));
        }
        for (int part : notBelow(2)) {
            index("density's part " + part, f -> f.density(0, 0, 0, part));
            index("density's part " + part + ", x and y too", f -> f.density(0, 801, -1, part));
        }
        for (long bad : beyond(0, 800)) {
            argument("density at x " + bad, f -> f.density(0, bad, 0, 0));
            argument("density at y " + bad, f -> f.density(0, 0, bad, 1));
        }
    }

    private void bounds() {
        for (int layer : notBelow(LAYERS)) {
            index("bounds of layer " + layer, f -> f.bounds(layer, 0, 100));
            index("bounds of layer " + layer + ", numbers too", f -> f.bounds(layer, 101, -1));
        }
        for (int bad : new int[] {-1, 101, Integer.MIN_VALUE, Integer.MAX_VALUE}) {
            argument("lower bound " + bad, f -> f.bounds(0, bad, 100));
            argument("upper bound " + bad, f -> f.bounds(0, 0, bad));
            argument("both bounds " + bad, f -> f.bounds(0, bad, bad));
        }
        argument("low is 1 above high", f -> f.bounds(0, 51, 50));
        argument("low is 100 above high", f -> f.bounds(0, 100, 0));
    }

    private void fills() {
        for (int layer : notBelow(LAYERS)) {
            index("fill of layer " + layer, f -> f.fill(layer, 20, 5, 3));
            index("fill of layer " + layer + ", numbers too", f -> f.fill(layer, 3, -1, 101));
        }
        for (long bad : beyond(4, 100)) {
            argument("size " + bad, f -> f.fill(0, bad, 5, 3));
        }
        for (long bad : beyond(0, 100)) {
            argument("space " + bad, f -> f.fill(0, 30, bad, 3));
            argument("away " + bad, f -> f.fill(0, 30, 5, bad));
            argument("on the layer without pieces, away " + bad, f -> f.fill(1, 30, 5, bad));
        }
        argument("size 0", f -> f.fill(0, 0, 5, 3));
    }

    private void pieces() {
        int all = made().count(4);
        for (int layer : notBelow(LAYERS)) {
            index("piece on layer " + layer, f -> f.piece(layer, 0, 0));
        }
        for (int k : notBelow(all)) {
            index("piece " + k, f -> f.piece(0, k, 0));
        }
        index("piece 0 of a layer that has none", f -> f.piece(1, 0, 0));
        for (int axis : notBelow(2)) {
            index("axis " + axis + " of the first piece", f -> f.piece(0, 0, axis));
            index("axis " + axis + " of the last piece", f -> f.piece(0, all - 1, axis));
        }
    }

    private void toldTiles() {
        index("told -1", f -> f.told(-1));
        index("told least", f -> f.told(Integer.MIN_VALUE));
    }

    private void slots() {
        for (int layer : notBelow(LAYERS)) {
            index("slots on layer " + layer, f -> f.slot(layer, 1));
            index("slots on layer " + layer + ", width too", f -> f.slot(layer, 0));
        }
        for (long bad : beyond(1, 400)) {
            argument("slots of width " + bad, f -> f.slot(0, bad));
        }
    }

    private void slotsAt() {
        for (int layer : notBelow(LAYERS)) {
            index("slot on layer " + layer, f -> f.slotAt(layer, 1, 0, 0));
            index("slot on layer " + layer + ", width and k too", f -> f.slotAt(layer, 401, -1, 0));
        }
        for (int side : notBelow(4)) {
            index("side " + side, f -> f.slotAt(0, 1, 0, side));
            index("side " + side + ", width too", f -> f.slotAt(0, 0, 0, side));
            index("side " + side + ", of no slot", f -> f.slotAt(0, 1, -1, side));
        }
        for (long bad : beyond(1, 400)) {
            argument("slot of width " + bad, f -> f.slotAt(0, bad, 0, 0));
            argument("width " + bad + ", k below 0", f -> f.slotAt(0, bad, -1, 0));
            argument("width " + bad + ", k far beyond", f -> f.slotAt(0, bad, Integer.MAX_VALUE, 0));
        }
    }

    private void counts() {
        for (int what : notBelow(5)) {
            index("count " + what, f -> f.count(what));
        }
    }

    private static void fullOfNets() {
        List<Call> calls = usual();
        for (int n = NETS; n < 40; n++) {
            calls.add(f -> f.net());
        }
        RefusalsTest full = new RefusalsTest("with 40 nets", calls);
        full.state("net 40", f -> f.net());
        full.index("gate of net 40", f -> f.gate(40, 1));
        full.index("shape of net 40", f -> f.shape(40, 0, 0, 0, 1, 1));
        full.index("diode of net 40", f -> f.diode(40, 0, 1));
        full.index("ratio of net 40", f -> f.ratio(40, 0, 0));
    }

    private static void fullOfShapes() {
        List<Call> calls = usual();
        for (int s = 5; s < 200; s++) {
            int at = s;
            calls.add(f -> f.shape(at % NETS, at % LAYERS, at, 900, at + 3, 906));
        }
        RefusalsTest full = new RefusalsTest("with 200 shapes", calls);
        full.state("shape 200", f -> f.shape(0, 0, 0, 0, 1000, 1000));
        full.state("shape 200 of the other layer", f -> f.shape(2, 1, 0, 0, 1000, 1000));
        full.state("shape 200 that covers nothing new", f -> f.shape(1, 0, 500, 500, 501, 501));
        full.state("shape 200, x1 is x0 too", f -> f.shape(0, 0, 5, 5, 5, 6));
        full.state("shape 200, beyond the plane too", f -> f.shape(0, 0, -1, 0, 1001, 1));
        full.index("shape 200, net too", f -> f.shape(NETS, 0, 0, 0, 1, 1));
        full.index("shape 200, layer too", f -> f.shape(0, LAYERS, 0, 0, 1, 1));
        full.index("shape 200, all wrong", f -> f.shape(-1, -1, -1, -1, -1, -1));
    }

    private static void fullOfDiodes() {
        List<Call> calls = usual();
        for (int d = 2; d < 100; d++) {
            calls.add(f -> f.diode(0, 0, 1));
        }
        RefusalsTest full = new RefusalsTest("with 100 diodes told", calls);
        full.state("diode 100", f -> f.diode(0, 0, 1));
        full.state("diode 100, the first of its net", f -> f.diode(2, 1, 1000000));
        full.state("diode 100, area 0 too", f -> f.diode(0, 0, 0));
        full.state("diode 100, area 1000001 too", f -> f.diode(0, 0, 1000001));
        full.index("diode 100, net too", f -> f.diode(NETS, 0, 1));
        full.index("diode 100, layer too", f -> f.diode(0, LAYERS, 1));
        full.index("diode 100, all wrong", f -> f.diode(-1, -1, -1));
    }

    private static void withoutAnything() {
        RefusalsTest empty = new RefusalsTest("without anything", new ArrayList<>());
        empty.index("shape of net 0", f -> f.shape(0, 0, 0, 0, 1, 1));
        empty.index("gate of net 0", f -> f.gate(0, 1));
        empty.index("diode of net 0", f -> f.diode(0, 0, 1));
        empty.index("ratio of net 0", f -> f.ratio(0, 0, 0));
        empty.index("repaired 0", f -> f.repaired(0, 0));
        empty.index("piece 0", f -> f.piece(0, 0, 0));
        empty.argument("limit 1 / 0", f -> f.limit(0, 1, 0));
        empty.argument("bounds 1, 0", f -> f.bounds(0, 1, 0));
        empty.argument("fill of size 3", f -> f.fill(0, 3, 0, 0));
        empty.argument("density at 801", f -> f.density(0, 801, 0, 0));
    }
}
