import java.util.ArrayList;
import java.util.BitSet;
import java.util.HashMap;
import java.util.List;
import java.util.Map;

/** The document told point by point and place by place, without any of the class's short cuts. */
final class PlainModel {
    private record Box(int net, int layer, int tile, int x0, int y0, int x1, int y1) {
        Box grown(int by) {
            return new Box(net, layer, tile, x0 - by, y0 - by, x1 + by, y1 + by);
        }

        boolean meets(Box other) {
            return x0 < other.x1 && other.x0 < x1 && y0 < other.y1 && other.y0 < y1;
        }

        boolean inPlane() {
            return x0 >= 0 && y0 >= 0 && x1 <= 1000 && y1 <= 1000;
        }

        void mark(Box other, boolean[][] points) {
            for (int y = Math.max(y0, other.y0); other.layer == layer && y < Math.min(y1, other.y1); y++) {
                for (int x = Math.max(x0, other.x0); x < Math.min(x1, other.x1); x++) {
                    points[y - y0][x - x0] = true;
                }
            }
        }

        void paint(BitSet points) {
            for (int y = y0; y < y1; y++) {
                points.set(y * 1000 + x0, y * 1000 + x1);
            }
        }
    }

    private record Diode(int net, int since, long area, Box box) {
    }

    private final int layers;
    private final List<Long> gates = new ArrayList<>();
    private final List<Box> shapes = new ArrayList<>();
    private final Map<Integer, BitSet> points = new HashMap<>();
    private final List<Diode> told = new ArrayList<>();
    private final List<Diode> placed = new ArrayList<>();
    private List<Box> pieces = new ArrayList<>();
    private final long[][] limits;
    private final int[] low;
    private final int[] high;
    private final List<Integer> tilesTold = new ArrayList<>();

    PlainModel(int layers) {
        this.layers = layers < 1 ? 1 : layers > 64 ? 64 : layers;
        limits = new long[this.layers][];
        low = new int[this.layers];
        high = new int[this.layers];
        java.util.Arrays.fill(high, 100);
    }

    private static void index(boolean there) {
        if (!there) {
            throw new IndexOutOfBoundsException();
        }
    }

    private static void state(boolean room) {
        if (!room) {
            throw new IllegalStateException();
        }
    }

    private static void argument(boolean fits) {
        if (!fits) {
            throw new IllegalArgumentException();
        }
    }

    private boolean isNet(int net) {
        return 0 <= net && net < gates.size();
    }

    private boolean isLayer(int layer) {
        return 0 <= layer && layer < layers;
    }

    private static boolean in(long n, long least, long most) {
        return least <= n && n <= most;
    }

    int net() {
        state(gates.size() < 40);
        gates.add(0L);
        return gates.size() - 1;
    }

    private BitSet points(int net, int layer) {
        return points.computeIfAbsent(net * 64 + layer, key -> new BitSet());
    }

    boolean shape(int net, int layer, long x0, long y0, long x1, long y1) {
        index(isNet(net) && isLayer(layer));
        state(shapes.size() < 200);
        argument(in(x0, 0, 1000) && in(y0, 0, 1000) && in(x1, 0, 1000) && in(y1, 0, 1000) && x0 < x1 && y0 < y1);
        int before = points(net, layer).cardinality();
        Box box = new Box(net, layer, -1, (int) x0, (int) y0, (int) x1, (int) y1);
        shapes.add(box);
        box.paint(points(net, layer));
        return points(net, layer).cardinality() > before;
    }

    long gate(int net, long area) {
        index(isNet(net));
        argument(in(area, 1, 1000000) && gates.get(net) + area <= 1000000000L);
        gates.set(net, gates.get(net) + area);
        return gates.get(net);
    }

    boolean diode(int net, int layer, long area) {
        index(isNet(net) && isLayer(layer));
        state(told.size() < 100);
        argument(in(area, 1, 1000000));
        boolean none = true;
        for (Diode d : all()) {
            none &= d.net != net || d.since != layer;
        }
        told.add(new Diode(net, layer, area, null));
        return none;
    }

    private List<Diode> all() {
        List<Diode> all = new ArrayList<>(told);
        all.addAll(placed);
        return all;
    }

    long antenna(int net, int layer) {
        long sum = 0;
        for (int l = 0; l <= layer; l++) {
            sum += points(net, l).cardinality();
        }
        return sum;
    }

    long guard(int net, int layer) {
        long sum = gates.get(net);
        for (Diode d : all()) {
            if (d.net == net && d.since <= layer) {
                sum += 8 * d.area;
            }
        }
        return sum;
    }

    private static long lowest(long upper, long lower, int part) {
        long divisor = java.math.BigInteger.valueOf(upper).gcd(java.math.BigInteger.valueOf(lower)).longValue();
        return (part == 0 ? upper : lower) / divisor;
    }

    long ratio(int net, int layer, int part) {
        index(isNet(net) && isLayer(layer) && in(part, 0, 1));
        return gates.get(net) == 0 ? lowest(0, 1, part) : lowest(antenna(net, layer), guard(net, layer), part);
    }

    boolean limit(int layer, long above, long below) {
        index(isLayer(layer));
        argument(in(above, 0, 1000000) && in(below, 1, 1000000));
        long[] was = limits[layer];
        limits[layer] = new long[] {lowest(above, below, 0), lowest(above, below, 1)};
        return was == null || was[0] != limits[layer][0] || was[1] != limits[layer][1];
    }

    private boolean over(int net, int layer) {
        return gates.get(net) > 0 && limits[layer] != null
                && antenna(net, layer) * limits[layer][1] > limits[layer][0] * guard(net, layer);
    }

    private Box place(int net) {
        if (placed.size() == 60) {
            return null;
        }
        for (int y = 0; y <= 996; y++) {
            for (int x = 0; x <= 996; x++) {
                Box box = new Box(net, 0, -1, x, y, x + 4, y + 4);
                if (near(box) && free(box.grown(2))) {
                    return box;
                }
            }
        }
        return null;
    }

    private boolean near(Box box) {
        Box grown = box.grown(20);
        for (Box s : shapes) {
            if (s.net == box.net && s.meets(grown)) {
                return true;
            }
        }
        return false;
    }

    private boolean free(Box grown) {
        if (!grown.inPlane()) {
            return false;
        }
        for (Box s : shapes) {
            if (s.layer == 0 && s.meets(grown)) {
                return false;
            }
        }
        for (Diode d : placed) {
            if (d.box.meets(grown)) {
                return false;
            }
        }
        for (Box p : pieces) {
            if (p.layer == 0 && p.meets(grown)) {
                return false;
            }
        }
        return true;
    }

    int repair() {
        for (int net = 0; net < gates.size(); net++) {
            for (int layer = 0; layer < layers; layer++) {
                while (over(net, layer)) {
                    Box box = place(net);
                    if (box == null) {
                        break;
                    }
                    placed.add(new Diode(net, layer, 16, box));
                }
            }
        }
        int still = 0;
        for (int net = 0; net < gates.size(); net++) {
            boolean somewhere = false;
            for (int layer = 0; layer < layers; layer++) {
                somewhere |= over(net, layer);
            }
            still += somewhere ? 1 : 0;
        }
        return still;
    }

    int repaired(int k, int what) {
        index(0 <= k && k < placed.size() && in(what, 0, 3));
        Diode d = placed.get(k);
        return new int[] {d.net, d.since, d.box.x0, d.box.y0}[what];
    }

    private int covered(int layer, int x, int y) {
        Box window = new Box(-1, layer, -1, x, y, x + 200, y + 200);
        boolean[][] points = new boolean[200][200];
        for (Box s : shapes) {
            window.mark(s, points);
        }
        for (Box p : pieces) {
            window.mark(p, points);
        }
        for (Diode d : placed) {
            window.mark(d.box, points);
        }
        int sum = 0;
        for (boolean[] row : points) {
            for (boolean point : row) {
                sum += point ? 1 : 0;
            }
        }
        return sum;
    }

    long density(int layer, long x, long y, int part) {
        index(isLayer(layer) && in(part, 0, 1));
        argument(in(x, 0, 800) && in(y, 0, 800));
        return lowest(covered(layer, (int) x, (int) y), 40000, part);
    }

    boolean bounds(int layer, int least, int most) {
        index(isLayer(layer));
        argument(in(least, 0, 100) && in(most, 0, 100) && least <= most);
        boolean other = low[layer] != least || high[layer] != most;
        low[layer] = least;
        high[layer] = most;
        return other;
    }

    int fill(int layer, long size, long space, long away) {
        index(isLayer(layer));
        argument(in(size, 4, 100) && in(space, 0, 100) && in(away, 0, 100));
        List<Box> kept = new ArrayList<>();
        for (Box p : pieces) {
            if (p.layer != layer) {
                kept.add(p);
            }
        }
        pieces = kept;
        tilesTold.clear();
        int before = pieces.size();
        for (int tile = 0; tile < 25; tile++) {
            fillTile(layer, tile, (int) size, (int) space, (int) away);
        }
        for (int tile = 0; tile < 25; tile++) {
            int covered = covered(layer, tile % 5 * 200, tile / 5 * 200);
            if (covered * 100 < low[layer] * 40000 || covered * 100 > high[layer] * 40000) {
                tilesTold.add(tile);
            }
        }
        return pieces.size() - before;
    }

    private void fillTile(int layer, int tile, int size, int space, int away) {
        int tx = tile % 5 * 200;
        int ty = tile / 5 * 200;
        int covered = covered(layer, tx, ty);
        for (int y = ty; y + size <= ty + 200; y += size + space) {
            for (int x = tx; x + size <= tx + 200; x += size + space) {
                Box square = new Box(-1, layer, tile, x, y, x + size, y + size);
                if (covered * 100 < low[layer] * 40000 && pieces.size() < 1500 && fits(square, space, away)) {
                    pieces.add(square);
                    covered = covered(layer, tx, ty);
                }
            }
        }
    }

    private boolean fits(Box square, int space, int away) {
        Box wide = square.grown(away);
        for (Box s : shapes) {
            if (s.layer == square.layer && s.meets(wide)) {
                return false;
            }
        }
        for (Diode d : placed) {
            if (square.layer == 0 && d.box.meets(wide)) {
                return false;
            }
        }
        for (Box p : pieces) {
            if (p.layer == square.layer && p.tile != square.tile && p.meets(square.grown(space))) {
                return false;
            }
        }
        return true;
    }

    long piece(int layer, int k, int axis) {
        index(isLayer(layer) && k >= 0 && in(axis, 0, 1));
        List<Box> here = new ArrayList<>();
        for (Box p : pieces) {
            if (p.layer == layer) {
                here.add(p);
            }
        }
        index(k < here.size());
        return axis == 0 ? here.get(k).x0 : here.get(k).y0;
    }

    int told(int k) {
        index(k >= 0);
        return k < tilesTold.size() ? tilesTold.get(k) : -1;
    }

    private List<Box> slots(int layer, int w) {
        List<Box> slots = new ArrayList<>();
        for (Box s : shapes) {
            int wide = s.x1 - s.x0;
            int tall = s.y1 - s.y0;
            if (s.layer != layer || wide < 2 * w + 2 || tall < 2 * w + 2) {
                continue;
            }
            if (wide >= tall) {
                for (int y = s.y0 + w; y + 2 + w <= s.y1; y += 2 + w) {
                    slots.add(new Box(-1, layer, -1, s.x0 + w, y, s.x1 - w, y + 2));
                }
            } else {
                for (int x = s.x0 + w; x + 2 + w <= s.x1; x += 2 + w) {
                    slots.add(new Box(-1, layer, -1, x, s.y0 + w, x + 2, s.y1 - w));
                }
            }
        }
        return slots;
    }

    int slot(int layer, long width) {
        index(isLayer(layer));
        argument(in(width, 1, 400));
        return slots(layer, (int) width).size();
    }

    int slotAt(int layer, long width, int k, int side) {
        index(isLayer(layer) && in(side, 0, 3));
        argument(in(width, 1, 400));
        List<Box> slots = slots(layer, (int) width);
        if (k < 0 || k >= slots.size()) {
            return -1;
        }
        Box b = slots.get(k);
        return new int[] {b.x0, b.y0, b.x1, b.y1}[side];
    }

    int count(int what) {
        index(in(what, 0, 4));
        return new int[] {gates.size(), shapes.size(), told.size(), placed.size(), pieces.size()}[what];
    }
}
