import java.util.concurrent.Callable;

/** All promises: runs of up to 512 chance calls (always the same ones), each answer against the plain model's. */
final class RandomRunsTest {
    private static final int MOST_CALLS = 512;
    // no chance call takes more of them
    private static final int CALLS_AT_ONCE = 12;

    private long seed;
    private AntennaFill fill;
    private PlainModel model;
    private int layers;
    private int netsAimed;
    private int reach;
    private boolean fromFarCorner;
    // with limits that ask for more diodes than there can be
    private boolean wild;
    // with corners at and beside the tiles' sides and the plane's
    private boolean snapped;
    private int shapesInHundred;
    private int used;

    private RandomRunsTest(long seed) {
        this.seed = seed * 1000003L;
    }

    public static void main(String[] args) {
        int first = args.length > 0 ? Integer.parseInt(args[0]) : 1;
        int last = args.length > 1 ? Integer.parseInt(args[1]) : 24;
        for (int run = first; run <= last; run++) {
            new RandomRunsTest(run).oneRun(run);
        }
        Check.end();
    }

    private int below(int bound) {
        seed += 0x9E3779B97F4A7C15L;
        long mixed = (seed ^ seed >>> 30) * 0xBF58476D1CE4E5B9L;
        mixed = (mixed ^ mixed >>> 27) * 0x94D049BB133111EBL;
        return (int) (((mixed ^ mixed >>> 31) >>> 33) % bound);
    }

    private int of(int... choices) {
        return choices[below(choices.length)];
    }

    private void oneRun(int run) {
        layers = of(1, 2, 3, 5);
        netsAimed = 1 + below(6);
        reach = of(60, 200, 450, 1000);
        fromFarCorner = below(3) == 0;
        wild = below(4) == 0;
        snapped = below(3) == 0;
        shapesInHundred = of(20, 26, 60);
        fill = new AntennaFill(layers);
        model = new PlainModel(layers);
        used = 0;
        for (int c = 0; used <= MOST_CALLS - CALLS_AT_ONCE; c++) {
            chanceCall("run " + run + " call " + c + " ", c);
        }
    }

    private int net() {
        return below(30) == 0 ? of(-1, 40, netsAimed) : below(netsAimed);
    }

    private int layer() {
        return below(40) == 0 ? of(-1, layers, layers + 7) : below(layers);
    }

    private int number(int least, int most) {
        return below(40) == 0 ? of(least - 1, most + 1) : least + below(most - least + 1);
    }

    private void chanceCall(String name, int c) {
        if (c < netsAimed) {
            compare(name + "net", () -> fill.net(), () -> model.net());
            return;
        }
        int n = net();
        int l = layer();
        if (below(100) < shapesInHundred) {
            shape(name, n, l);
            return;
        }
        int kind = below(74);
        if (kind < 18) {
            gatesAndLimits(name, n, l);
        } else if (kind < 24) {
            repair(name, l);
        } else if (kind < 36) {
            fills(name, l);
        } else {
            question(name, n, l);
        }
    }

    private void shape(String name, int n, int l) {
        int x = corner();
        int y = corner();
        int wide = of(1 + below(12), 1 + below(60), 1 + below(300));
        int tall = of(1 + below(12), 1 + below(60), 1 + below(300));
        int x1 = below(40) == 0 ? of(x, x - 1, 1001) : snap(Math.min(1000, x + wide));
        int y1 = below(40) == 0 ? of(y, y - 1, 1001) : snap(Math.min(1000, y + tall));
        compare(name + "shape(" + n + ", " + l + ", " + x + ", " + y + ", " + x1 + ", " + y1 + ")",
                () -> fill.shape(n, l, x, y, x1, y1), () -> model.shape(n, l, x, y, x1, y1));
    }

    private int corner() {
        return snap(fromFarCorner ? 999 - below(reach) : below(reach));
    }

    private int snap(int at) {
        if (!snapped || below(4) == 0) {
            return at;
        }
        return Math.max(0, Math.min(1000, (at + 50) / 100 * 100 + of(-2, -1, 0, 0, 1, 2)));
    }

    private void gatesAndLimits(String name, int n, int l) {
        int kind = below(4);
        if (kind == 0) {
            long area = of(0, 1 + below(50), 1 + below(1000), 1000000);
            compare(name + "gate(" + n + ", " + area + ")", () -> fill.gate(n, area), () -> model.gate(n, area));
        } else if (kind == 1) {
            long area = of(0, 1 + below(50), 1 + below(50), 1000001);
            compare(name + "diode(" + n + ", " + l + ", " + area + ")",
                    () -> fill.diode(n, l, area), () -> model.diode(n, l, area));
        } else {
            long under = below(12);
            long above = wild ? below(20) : 1000000 + below(2);
            compare(name + "limit(" + l + ", " + above + ", " + under + ")",
                    () -> fill.limit(l, above, under), () -> model.limit(l, above, under));
        }
    }

    private void repair(String name, int l) {
        boolean aimed = !wild && l >= 0 && l < layers;
        if (aimed) {
            aimLimit(name, l, 1 + below(3));
        }
        compare(name + "repair", () -> fill.repair(), () -> model.repair());
        for (int k = Math.max(0, model.count(3) - 4); k < model.count(3); k++) {
            int last = k;
            compare(name + "x of " + k, () -> fill.repaired(last, 2), () -> model.repaired(last, 2));
            compare(name + "y of " + k, () -> fill.repaired(last, 3), () -> model.repaired(last, 3));
        }
        if (aimed) {
            compare(name + "limit", () -> fill.limit(l, 1000000, 1), () -> model.limit(l, 1000000, 1));
        }
    }

    /** Sets a limit with which a net takes a few diodes at a layer, if there is room. */
    private void aimLimit(String name, int l, int diodes) {
        int n = below(netsAimed);
        long above = Math.min(1000000, model.antenna(n, l));
        long under = Math.min(1000000, model.guard(n, l) + 128 * diodes - 64);
        compare(name + "limit(" + l + ", " + above + ", " + under + ")",
                () -> fill.limit(l, above, under), () -> model.limit(l, above, under));
    }

    private void fills(String name, int l) {
        if (below(2) == 0) {
            int low = number(0, 100);
            int high = low + below(102 - Math.max(0, Math.min(101, low)));
            compare(name + "bounds(" + l + ", " + low + ", " + high + ")",
                    () -> fill.bounds(l, low, high), () -> model.bounds(l, low, high));
        } else {
            long size = of(number(20, 100), number(12, 40), number(8, 100), 3, 4);
            long space = of(0, number(0, 20), number(0, 100));
            long away = of(0, number(0, 20), number(0, 100));
            compare(name + "fill(" + l + ", " + size + ", " + space + ", " + away + ")",
                    () -> fill.fill(l, size, space, away), () -> model.fill(l, size, space, away));
        }
    }

    private void question(String name, int n, int l) {
        int part = number(0, 1);
        int side = number(0, 3);
        long width = of(number(1, 400), number(1, 30), number(1, 8));
        int k = of(-1, below(10), below(60), below(300), below(1500));
        long x = number(0, 800);
        long y = number(0, 800);
        switch (below(9)) {
            case 0:
                compare(name + "ratio", () -> fill.ratio(n, l, part), () -> model.ratio(n, l, part));
                break;
            case 1:
                compare(name + "repaired", () -> fill.repaired(k, side), () -> model.repaired(k, side));
                break;
            case 2:
            case 3:
                compare(name + "density", () -> fill.density(l, x, y, part), () -> model.density(l, x, y, part));
                break;
            case 4:
                compare(name + "piece", () -> fill.piece(l, k, part), () -> model.piece(l, k, part));
                break;
            case 5:
                compare(name + "told", () -> fill.told(k), () -> model.told(k));
                break;
            case 6:
                compare(name + "slot", () -> fill.slot(l, width), () -> model.slot(l, width));
                break;
            case 7:
                compare(name + "slotAt", () -> fill.slotAt(l, width, k, side), () -> model.slotAt(l, width, k, side));
                break;
            default:
                compare(name + "count", () -> fill.count(side + 1), () -> model.count(side + 1));
        }
    }

    private void compare(String name, Callable<?> call, Callable<?> due) {
        used++;
        Check.same(name, answer(call), answer(due));
    }

    /** A throw stands as a number that no call of these runs answers. */
    private static long answer(Callable<?> call) {
        try {
            Object got = call.call();
            if (got instanceof Boolean) {
                return (Boolean) got ? 1 : 0;
            }
            return ((Number) got).longValue();
        } catch (IndexOutOfBoundsException e) {
            return Long.MIN_VALUE + 1;
        } catch (IllegalStateException e) {
            return Long.MIN_VALUE + 2;
        } catch (IllegalArgumentException e) {
            return Long.MIN_VALUE + 3;
        } catch (Exception e) {
            return e.getClass().getName().hashCode() + 4L * Integer.MIN_VALUE;
        }
    }
}
