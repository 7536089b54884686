/** Antennas and fill of a layout: ratios of nets, diodes put in, densities, pieces between nets, slots. */
public final class AntennaFill {
    public static final int NONE = -1;

    private static final int MOST_LAYERS = 64;
    private static final int MOST_NETS = 40;
    private static final int MOST_SHAPES = 200;
    private static final int MOST_TOLD_DIODES = 100;
    private static final int MOST_PLACED_DIODES = 60;
    private static final int MOST_PIECES = 1500;
    private static final int PLANE = 1000;
    private static final int WINDOW = 200;
    private static final int WINDOW_AREA = WINDOW * WINDOW;
    private static final int TILES = 25;
    private static final int TILES_IN_ROW = 5;
    private static final int DIODE_SIDE = 4;
    private static final int DIODE_WEIGHT = 8;
    private static final int DIODE_GAP = 2;
    private static final int DIODE_REACH = 20;
    private static final int DIODE_LAYER = 0;
    private static final int SLOT_BREADTH = 2;
    private static final long MOST_AREA = 1000000L;
    private static final long MOST_GATES = 1000000000L;

    private final int layers;
    private int nets;
    private final long[] gateAreas;
    private final Boxes shapes;
    private final Boxes diodes;
    private final Boxes pieces;
    private final int[] diodeSince;
    private int diodesTold;
    // rows of one number for each layer of each net
    private final long[] shapeAreas;
    private final long[] diodeAreas;
    private final long[] limitAbove;
    // 0 where a layer has no limit
    private final long[] limitBelow;
    private final int[] lowBounds;
    private final int[] highBounds;
    private final int[] tilesTold;
    private int tilesToldCount;
    private final Cover cover;
    private final Sites sites;
    private final Grid grid;

    public AntennaFill(int layers) {
        this.layers = Math.max(1, Math.min(MOST_LAYERS, layers));
        gateAreas = new long[MOST_NETS];
        shapes = new Boxes(MOST_SHAPES);
        diodes = new Boxes(MOST_PLACED_DIODES);
        pieces = new Boxes(MOST_PIECES);
        diodeSince = new int[MOST_PLACED_DIODES];
        shapeAreas = new long[MOST_NETS * this.layers];
        diodeAreas = new long[MOST_NETS * this.layers];
        limitAbove = new long[this.layers];
        limitBelow = new long[this.layers];
        lowBounds = new int[this.layers];
        highBounds = new int[this.layers];
        for (int layer = 0; layer < this.layers; layer++) {
            highBounds[layer] = 100;
        }
        tilesTold = new int[TILES];
        cover = new Cover(MOST_SHAPES + MOST_PLACED_DIODES + MOST_PIECES);
        sites = new Sites();
        grid = new Grid();
    }

    public int net() throws IllegalStateException {
        if (nets >= MOST_NETS) {
            throw new IllegalStateException("there are 40 nets");
        }
        nets++;
        return nets - 1;
    }

    public boolean shape(int net, int layer, long x0, long y0, long x1, long y1)
            throws IndexOutOfBoundsException, IllegalStateException, IllegalArgumentException {
        checkNet(net);
        checkLayer(layer);
        if (shapes.size >= MOST_SHAPES) {
            throw new IllegalStateException("there are 200 shapes");
        }
        if (x0 < 0 || y0 < 0 || x1 > PLANE || y1 > PLANE || x0 >= x1 || y0 >= y1) {
            throw new IllegalArgumentException("not a rectangle of the plane");
        }
        cover.open((int) x0, (int) y0, (int) x1, (int) y1);
        cover.take(shapes, layer, net);
        long fresh = (x1 - x0) * (y1 - y0) - cover.area();
        shapes.put(net, layer, (int) x0, (int) y0, (int) x1, (int) y1);
        shapeAreas[net * layers + layer] += fresh;
        if (layer == DIODE_LAYER) {
            sites.known = false;
        }
        return fresh > 0;
    }

    public long gate(int net, long area) throws IndexOutOfBoundsException, IllegalArgumentException {
        checkNet(net);
        checkArea(area);
        if (gateAreas[net] + area > MOST_GATES) {
            throw new IllegalArgumentException("too much gate area");
        }
        gateAreas[net] += area;
        return gateAreas[net];
    }

    public boolean diode(int net, int layer, long area)
            throws IndexOutOfBoundsException, IllegalStateException, IllegalArgumentException {
        checkNet(net);
        checkLayer(layer);
        if (diodesTold >= MOST_TOLD_DIODES) {
            throw new IllegalStateException("100 diodes were told");
        }
        checkArea(area);
        int place = net * layers + layer;
        boolean first = diodeAreas[place] == 0;
        diodeAreas[place] += area;
        diodesTold++;
        return first;
    }

    public long ratio(int net, int layer, int part) throws IndexOutOfBoundsException {
        checkNet(net);
        checkLayer(layer);
        checkIndex(part, 2);
        if (gateAreas[net] == 0) {
            return part;
        }
        return inLowestTerms(sumUpTo(shapeAreas, net, layer), guardOf(net, layer), part);
    }

    public boolean limit(int layer, long above, long below)
            throws IndexOutOfBoundsException, IllegalArgumentException {
        checkLayer(layer);
        if (above < 0 || above > MOST_AREA || below < 1 || below > MOST_AREA) {
            throw new IllegalArgumentException("a limit's number is out of its range");
        }
        boolean other = limitBelow[layer] == 0
                || above * limitBelow[layer] != limitAbove[layer] * below;
        limitAbove[layer] = above;
        limitBelow[layer] = below;
        return other;
    }

    public int repair() {
        if (!sites.known) {
            learnSites();
        }
        for (int net = 0; net < nets; net++) {
            placeDiodesFor(net);
        }
        int still = 0;
        for (int net = 0; net < nets; net++) {
            if (isOverSomewhere(net)) {
                still++;
            }
        }
        return still;
    }

    public int repaired(int k, int what) throws IndexOutOfBoundsException {
        checkIndex(k, diodes.size);
        checkIndex(what, 4);
        switch (what) {
            case 0:
                return diodes.net[k];
            case 1:
                return diodeSince[k];
            case 2:
                return diodes.x0[k];
            default:
                return diodes.y0[k];
        }
    }

    public long density(int layer, long x, long y, int part)
            throws IndexOutOfBoundsException, IllegalArgumentException {
        checkLayer(layer);
        checkIndex(part, 2);
        checkRange(x, 0, PLANE - WINDOW);
        checkRange(y, 0, PLANE - WINDOW);
        return inLowestTerms(coveredInWindow(layer, (int) x, (int) y), WINDOW_AREA, part);
    }

    public boolean bounds(int layer, int low, int high)
            throws IndexOutOfBoundsException, IllegalArgumentException {
        checkLayer(layer);
        checkRange(low, 0, 100);
        checkRange(high, low, 100);
        boolean other = lowBounds[layer] != low || highBounds[layer] != high;
        lowBounds[layer] = low;
        highBounds[layer] = high;
        return other;
    }

    public int fill(int layer, long size, long space, long away)
            throws IndexOutOfBoundsException, IllegalArgumentException {
        checkLayer(layer);
        checkRange(size, 4, 100);
        checkRange(space, 0, 100);
        checkRange(away, 0, 100);
        pieces.dropLayer(layer);
        tilesToldCount = 0;
        for (int tile = 0; tile < TILES; tile++) {
            long covered = fillTile(layer, tile, (int) size, (int) space, (int) away);
            if (covered < areaOfPercent(lowBounds[layer]) || covered > areaOfPercent(highBounds[layer])) {
                tilesTold[tilesToldCount] = tile;
                tilesToldCount++;
            }
        }
        if (layer == DIODE_LAYER) {
            sites.known = false;
        }
        return pieces.sizeOnLayer(layer);
    }

    public long piece(int layer, int k, int axis) throws IndexOutOfBoundsException {
        checkLayer(layer);
        checkIndex(k, pieces.sizeOnLayer(layer));
        checkIndex(axis, 2);
        int index = pieces.indexOnLayer(layer, k);
        if (index == NONE) {
            return NONE;
        }
        return axis == 0 ? pieces.x0[index] : pieces.y0[index];
    }

    public int told(int k) throws IndexOutOfBoundsException {
        if (k < 0) {
            throw new IndexOutOfBoundsException("below 0");
        }
        return k < tilesToldCount ? tilesTold[k] : NONE;
    }

    public int slot(int layer, long width) throws IndexOutOfBoundsException, IllegalArgumentException {
        checkLayer(layer);
        checkRange(width, 1, 400);
        int sum = 0;
        for (int s = 0; s < shapes.size; s++) {
            if (shapes.layer[s] == layer) {
                sum += slotsInShape(s, (int) width);
            }
        }
        return sum;
    }

    public int slotAt(int layer, long width, int k, int side)
            throws IndexOutOfBoundsException, IllegalArgumentException {
        checkLayer(layer);
        checkIndex(side, 4);
        checkRange(width, 1, 400);
        int left = k;
        for (int s = 0; s < shapes.size && left >= 0; s++) {
            if (shapes.layer[s] == layer) {
                int here = slotsInShape(s, (int) width);
                if (left < here) {
                    return slotSide(s, (int) width, left, side);
                }
                left -= here;
            }
        }
        return NONE;
    }

    public int count(int what) throws IndexOutOfBoundsException {
        checkIndex(what, 5);
        switch (what) {
            case 0:
                return nets;
            case 1:
                return shapes.size;
            case 2:
                return diodesTold;
            case 3:
                return diodes.size;
            default:
                return pieces.size;
        }
    }

    private void checkNet(int net) {
        checkIndex(net, nets);
    }

    private void checkLayer(int layer) {
        checkIndex(layer, layers);
    }

    private static void checkIndex(int index, int size) {
        if (index < 0 || index >= size) {
            throw new IndexOutOfBoundsException("there is no such one");
        }
    }

    private static void checkArea(long area) {
        checkRange(area, 1, MOST_AREA);
    }

    private static void checkRange(long number, long least, long most) {
        if (number < least || number > most) {
            throw new IllegalArgumentException("a number is out of its range");
        }
    }

    /** The upper (part 0) or the lower number (part 1) of a fraction, the lower one being above 0. */
    private static long inLowestTerms(long upper, long lower, int part) {
        long a = upper;
        long b = lower;
        // Euclid's rule is through after some 90 steps for any two longs
        for (int step = 0; step < 200 && b != 0; step++) {
            long rest = a % b;
            a = b;
            b = rest;
        }
        long wanted = part == 0 ? upper : lower;
        return a > 0 ? wanted / a : wanted;
    }

    private long sumUpTo(long[] areas, int net, int layer) {
        long sum = 0;
        for (int l = 0; l <= layer; l++) {
            sum += areas[net * layers + l];
        }
        return sum;
    }

    private long guardOf(int net, int layer) {
        return gateAreas[net] + DIODE_WEIGHT * sumUpTo(diodeAreas, net, layer);
    }

    private boolean isOver(int net, int layer) {
        if (gateAreas[net] == 0 || limitBelow[layer] == 0) {
            return false;
        }
        long antenna = sumUpTo(shapeAreas, net, layer);
        return antenna * limitBelow[layer] > limitAbove[layer] * guardOf(net, layer);
    }

    private boolean isOverSomewhere(int net) {
        for (int layer = 0; layer < layers; layer++) {
            if (isOver(net, layer)) {
                return true;
            }
        }
        return false;
    }

    private void placeDiodesFor(int net) {
        // places only get fewer while diodes are placed: a net that found none finds none at later layers
        boolean room = true;
        for (int layer = 0; layer < layers && room; layer++) {
            for (int tries = 0; tries <= MOST_PLACED_DIODES && room && isOver(net, layer); tries++) {
                room = placeDiode(net, layer);
            }
        }
    }

    /** Whether there was a place for a diode of the net: then it has been placed. */
    private boolean placeDiode(int net, int layer) {
        if (diodes.size >= MOST_PLACED_DIODES) {
            return false;
        }
        int place = findPlace(net);
        if (place == NONE) {
            return false;
        }
        int x = place % PLANE;
        int y = place / PLANE;
        diodeSince[diodes.size] = layer;
        diodes.put(net, DIODE_LAYER, x, y, x + DIODE_SIDE, y + DIODE_SIDE);
        sites.closeAround(x, y, x + DIODE_SIDE, y + DIODE_SIDE);
        diodeAreas[net * layers + layer] += DIODE_SIDE * DIODE_SIDE;
        return true;
    }

    /** The free and near place of least y, then least x, as y * 1000 + x; NONE if there is none. */
    private int findPlace(int net) {
        int best = NONE;
        for (int s = 0; s < shapes.size; s++) {
            if (shapes.net[s] == net) {
                int found = sites.firstNear(shapes.x0[s], shapes.y0[s], shapes.x1[s], shapes.y1[s]);
                if (found != NONE && (best == NONE || found < best)) {
                    best = found;
                }
            }
        }
        return best;
    }

    private void learnSites() {
        sites.openAll();
        sites.closeAroundAll(shapes);
        sites.closeAroundAll(diodes);
        sites.closeAroundAll(pieces);
        sites.known = true;
    }

    private long coveredInWindow(int layer, int x, int y) {
        cover.open(x, y, x + WINDOW, y + WINDOW);
        cover.take(shapes, layer, NONE);
        cover.take(diodes, layer, NONE);
        cover.take(pieces, layer, NONE);
        return cover.area();
    }

    private static long areaOfPercent(int percent) {
        return percent * (long) (WINDOW_AREA / 100);
    }

    /** Puts the pieces of a tile: what is covered in the tile then. */
    private long fillTile(int layer, int tile, int size, int space, int away) {
        int x = tile % TILES_IN_ROW * WINDOW;
        int y = tile / TILES_IN_ROW * WINDOW;
        long covered = coveredInWindow(layer, x, y);
        long wanted = areaOfPercent(lowBounds[layer]);
        if (covered >= wanted) {
            return covered;
        }
        grid.open(x, y, size, size + space);
        grid.closeAround(shapes, layer, away);
        grid.closeAround(diodes, layer, away);
        // all pieces that the layer has by now are of other tiles
        grid.closeAround(pieces, layer, space);
        for (int j = 0; j < grid.side; j++) {
            for (int i = 0; i < grid.side && covered < wanted && pieces.size < MOST_PIECES; i++) {
                if (grid.isOpen(i, j)) {
                    int px = x + i * grid.pitch;
                    int py = y + j * grid.pitch;
                    pieces.put(NONE, layer, px, py, px + size, py + size);
                    // a piece has no area in common with anything else on its layer
                    covered += (long) size * size;
                }
            }
        }
        return covered;
    }

    private int slotsInShape(int s, int width) {
        int breadth = Math.min(shapes.x1[s] - shapes.x0[s], shapes.y1[s] - shapes.y0[s]);
        if (width < 1 || breadth < 2 * width + SLOT_BREADTH) {
            return 0;
        }
        return (breadth - width) / (width + SLOT_BREADTH);
    }

    private int slotSide(int s, int width, int k, int side) {
        boolean alongX = shapes.x1[s] - shapes.x0[s] >= shapes.y1[s] - shapes.y0[s];
        int across = width + k * (width + SLOT_BREADTH);
        switch (side) {
            case 0:
                return shapes.x0[s] + (alongX ? width : across);
            case 1:
                return shapes.y0[s] + (alongX ? across : width);
            case 2:
                return alongX ? shapes.x1[s] - width : shapes.x0[s] + across + SLOT_BREADTH;
            default:
                return alongX ? shapes.y0[s] + across + SLOT_BREADTH : shapes.y1[s] - width;
        }
    }

    /** Rectangles in the order in which they were put, each on a layer and of a net (NONE for pieces). */
    private static final class Boxes {
        final int[] net;
        final int[] layer;
        final int[] x0;
        final int[] y0;
        final int[] x1;
        final int[] y1;
        int size;

        Boxes(int most) {
            net = new int[most];
            layer = new int[most];
            x0 = new int[most];
            y0 = new int[most];
            x1 = new int[most];
            y1 = new int[most];
        }

        void put(int itsNet, int itsLayer, int left, int low, int right, int high) {
            if (size < net.length) {
                net[size] = itsNet;
                layer[size] = itsLayer;
                x0[size] = left;
                y0[size] = low;
                x1[size] = right;
                y1[size] = high;
                size++;
            }
        }

        void dropLayer(int dropped) {
            int all = size;
            size = 0;
            for (int k = 0; k < all; k++) {
                if (layer[k] != dropped) {
                    put(net[k], layer[k], x0[k], y0[k], x1[k], y1[k]);
                }
            }
        }

        int sizeOnLayer(int wanted) {
            int sum = 0;
            for (int k = 0; k < size; k++) {
                if (layer[k] == wanted) {
                    sum++;
                }
            }
            return sum;
        }

        /** The index of the k-th rectangle on a layer; NONE if there are not so many. */
        int indexOnLayer(int wanted, int k) {
            int before = 0;
            for (int index = 0; index < size; index++) {
                if (layer[index] == wanted) {
                    if (before == k) {
                        return index;
                    }
                    before++;
                }
            }
            return NONE;
        }
    }

    /** What rectangles cover together in a window, kept by their corners counted from the window's. */
    private static final class Cover {
        private final int[] x0;
        private final int[] y0;
        private final int[] x1;
        private final int[] y1;
        private final int[] byLeft;
        private final int[] leftStarts;
        private final boolean[] cuts;
        private int size;
        private int windowX;
        private int windowY;
        private int wide;
        private int high;

        Cover(int most) {
            x0 = new int[most];
            y0 = new int[most];
            x1 = new int[most];
            y1 = new int[most];
            byLeft = new int[most];
            leftStarts = new int[PLANE + 1];
            cuts = new boolean[PLANE + 1];
        }

        void open(int left, int low, int right, int top) {
            size = 0;
            windowX = left;
            windowY = low;
            wide = right - left;
            high = top - low;
        }

        /** Takes the rectangles on a layer, of one net or, with NONE, of all. */
        void take(Boxes boxes, int layer, int net) {
            for (int k = 0; k < boxes.size; k++) {
                if (boxes.layer[k] == layer && (net == NONE || boxes.net[k] == net)) {
                    takeClipped(boxes.x0[k], boxes.y0[k], boxes.x1[k], boxes.y1[k]);
                }
            }
        }

        private void takeClipped(int left, int low, int right, int top) {
            int a = Math.max(0, left - windowX);
            int b = Math.max(0, low - windowY);
            int c = Math.min(wide, right - windowX);
            int d = Math.min(high, top - windowY);
            if (a < c && b < d && size < x0.length) {
                x0[size] = a;
                y0[size] = b;
                x1[size] = c;
                y1[size] = d;
                size++;
            }
        }

        /** The area that is covered: slabs between neighbouring cuts are alike in all their rows. */
        long area() {
            if (size == 0) {
                return 0;
            }
            sortByLeft();
            markCuts();
            long sum = 0;
            int from = 0;
            for (int y = 1; y <= high; y++) {
                if (cuts[y]) {
                    sum += (long) (y - from) * lengthInRow(from);
                    from = y;
                }
            }
            return sum;
        }

        private void sortByLeft() {
            for (int x = 0; x <= wide; x++) {
                leftStarts[x] = 0;
            }
            for (int k = 0; k < size; k++) {
                leftStarts[x0[k] + 1]++;
            }
            for (int x = 1; x <= wide; x++) {
                leftStarts[x] += leftStarts[x - 1];
            }
            for (int k = 0; k < size; k++) {
                byLeft[leftStarts[x0[k]]] = k;
                leftStarts[x0[k]]++;
            }
        }

        private void markCuts() {
            for (int y = 0; y <= high; y++) {
                cuts[y] = false;
            }
            for (int k = 0; k < size; k++) {
                cuts[y0[k]] = true;
                cuts[y1[k]] = true;
            }
        }

        private int lengthInRow(int y) {
            int length = 0;
            int reached = 0;
            for (int n = 0; n < size; n++) {
                int k = byLeft[n];
                if (y0[k] <= y && y < y1[k] && x1[k] > reached) {
                    length += x1[k] - Math.max(x0[k], reached);
                    reached = x1[k];
                }
            }
            return length;
        }
    }

    /** The places of the plane by their lesser corners, a bit set for each one that is not free. */
    private static final class Sites {
        private static final int WORDS = 16;
        private static final int FIRST = DIODE_GAP;
        private static final int LAST = PLANE - DIODE_SIDE - DIODE_GAP;

        private final long[] closed = new long[PLANE * WORDS];
        boolean known;

        void openAll() {
            for (int w = 0; w < closed.length; w++) {
                closed[w] = 0;
            }
        }

        void closeAroundAll(Boxes boxes) {
            for (int k = 0; k < boxes.size; k++) {
                if (boxes.layer[k] == DIODE_LAYER) {
                    closeAround(boxes.x0[k], boxes.y0[k], boxes.x1[k], boxes.y1[k]);
                }
            }
        }

        /** Closes the places that, grown by the gap, have area in common with the rectangle. */
        void closeAround(int x0, int y0, int x1, int y1) {
            int from = firstTouching(x0, DIODE_GAP);
            int to = lastTouching(x1, DIODE_GAP);
            int top = lastTouching(y1, DIODE_GAP);
            for (int y = firstTouching(y0, DIODE_GAP); y <= top; y++) {
                for (int w = from >> 6; w <= to >> 6; w++) {
                    closed[y * WORDS + w] |= bitsBetween(w, from, to);
                }
            }
        }

        /** The first free place near the rectangle, as y * 1000 + x; NONE if there is none. */
        int firstNear(int x0, int y0, int x1, int y1) {
            int from = firstTouching(x0, DIODE_REACH);
            int to = lastTouching(x1, DIODE_REACH);
            int top = lastTouching(y1, DIODE_REACH);
            for (int y = firstTouching(y0, DIODE_REACH); y <= top; y++) {
                for (int w = from >> 6; w <= to >> 6; w++) {
                    long open = ~closed[y * WORDS + w] & bitsBetween(w, from, to);
                    if (open != 0) {
                        return y * PLANE + w * 64 + Long.numberOfTrailingZeros(open);
                    }
                }
            }
            return NONE;
        }

        private static int firstTouching(int start, int grown) {
            return Math.max(FIRST, start - DIODE_SIDE - grown + 1);
        }

        private static int lastTouching(int end, int grown) {
            return Math.min(LAST, end + grown - 1);
        }

        /** The bits of word w of a row that stand for the columns from .. to. */
        private static long bitsBetween(int w, int from, int to) {
            int a = Math.max(from - w * 64, 0);
            int b = Math.min(to - w * 64, 63);
            return (-1L << a) & (-1L >>> (63 - b));
        }
    }

    /** The places of pieces in a tile, a row of bits for each j, a bit set for each one that is not free. */
    private static final class Grid {
        private static final int MOST_SIDE = 50;

        private final long[] closed = new long[MOST_SIDE];
        private int tileX;
        private int tileY;
        private int pieceSize;
        int pitch;
        int side;

        void open(int x, int y, int size, int itsPitch) {
            tileX = x;
            tileY = y;
            pieceSize = size;
            pitch = Math.max(1, itsPitch);
            side = Math.min(MOST_SIDE, (WINDOW - size) / pitch + 1);
            for (int j = 0; j < MOST_SIDE; j++) {
                closed[j] = 0;
            }
        }

        /** Closes the places that, grown, have area in common with a rectangle on the layer. */
        void closeAround(Boxes boxes, int layer, int grown) {
            for (int k = 0; k < boxes.size; k++) {
                if (boxes.layer[k] == layer) {
                    int from = firstTouching(boxes.x0[k] - tileX, grown);
                    int to = lastTouching(boxes.x1[k] - tileX, grown);
                    int top = lastTouching(boxes.y1[k] - tileY, grown);
                    if (from <= to) {
                        long bits = (-1L << from) & (-1L >>> (63 - to));
                        for (int j = firstTouching(boxes.y0[k] - tileY, grown); j <= top; j++) {
                            closed[j] |= bits;
                        }
                    }
                }
            }
        }

        boolean isOpen(int i, int j) {
            return (closed[j] >> i & 1L) == 0;
        }

        private int firstTouching(int start, int grown) {
            return Math.max(0, Math.floorDiv(start - grown - pieceSize, pitch) + 1);
        }

        private int lastTouching(int end, int grown) {
            return Math.min(side - 1, Math.floorDiv(end + grown - 1, pitch));
        }
    }
}
