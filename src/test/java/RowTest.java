/** Promises 9 to 12, 16 and 17: the hull, its slopes, the row, and what is asked of the row. */
public final class RowTest {
    public static void main(String[] args) {
        hull();
        hullOfLosses();
        straightLine();
        hullGrowsAndShrinks();
        slopeOfTheGreatest();
        wrongPasses();
        rowOrder();
        equalSlopes();
        exactOrder();
        atExceptions();
        longRowOfAllBlocks();
        least();
        above();
        aboveIsExact();
        aboveBounds();
        Check.end();
    }

    private static RatePasses withPasses(int... lengthsAndGains) {
        RatePasses x = new RatePasses(2);
        Make.block(x, lengthsAndGains);
        return x;
    }

    private static void dueHull(String name, RatePasses x, int block, boolean... want) {
        for (int pass = 0; pass < want.length; pass++) {
            Check.due("9: " + name + ", pass " + pass, x.hull(block, pass), want[pass]);
        }
    }

    private static void dueSlope(RatePasses x, int block, int pass, long g, long l) {
        String call = "10: slope(" + block + ", " + pass + ", ";
        Check.due(call + "true)", x.slope(block, pass, true), g);
        Check.due(call + "false)", x.slope(block, pass, false), l);
    }

    private static void hull() {
        RatePasses x = withPasses(10, 100, 10, 20, 10, 90, 5, -5, 5, 5, 20, 1);
        dueHull("a concave one", x, 0, true, false, true, false, false, true);
        dueSlope(x, 0, 0, 100, 10);
        dueSlope(x, 0, 1, 0, 0);
        dueSlope(x, 0, 2, 110, 20);
        dueSlope(x, 0, 3, 0, 0);
        dueSlope(x, 0, 4, 0, 0);
        dueSlope(x, 0, 5, 1, 30);
        Check.due("11: row", x.row(), 3);
    }

    private static void hullOfLosses() {
        RatePasses x = withPasses(4, -3, 4, 3, 2, 0);
        dueHull("never above the start", x, 0, false, false, false);
        Check.due("11: row of none", x.row(), 0);
        RatePasses y = withPasses(4, -3, 4, 4);
        dueHull("a loss, then more", y, 0, false, true);
        dueSlope(y, 0, 1, 1, 8);
        RatePasses z = withPasses(1, 5, 1, 0, 1, -2, 1, 2);
        dueHull("a slope of 0 is not above 0", z, 0, true, false, false, false);
    }

    private static void straightLine() {
        RatePasses x = withPasses(2, 4, 1, 2, 3, 6, 1, 1);
        dueHull("of equal slopes the last", x, 0, false, false, true, true);
        dueSlope(x, 0, 2, 12, 6);
        dueSlope(x, 0, 3, 1, 1);
    }

    private static void hullGrowsAndShrinks() {
        RatePasses x = withPasses(1, 9, 1, 3, 1, 1);
        dueHull("before", x, 0, true, true, true);
        Check.due("11: row before", x.row(), 3);
        x.pass(0, 1, 100);
        dueHull("a steep one takes all before it away", x, 0, false, false, false, true);
        dueSlope(x, 0, 0, 0, 0);
        dueSlope(x, 0, 3, 113, 4);
        Check.due("11: row after", x.row(), 1);
        Check.due("12: pass", x.at(0, 1), 3);
        Check.due("12: cost", x.at(0, 2), 4);
    }

    private static void slopeOfTheGreatest() {
        RatePasses x = new RatePasses(1);
        x.block();
        for (int pass = 0; pass < 24; pass++) {
            x.pass(0, 10000, 1000000);
        }
        x.weight(0, 100);
        x.shift(0, 3);
        dueSlope(x, 0, 23, 153600000000L, 240000);
        Check.due("11: row", x.row(), 1);
        Check.due("12: cost", x.at(0, 2), 240000);
        Check.due("16: least", x.least(1), 240000);
    }

    private static void wrongPasses() {
        RatePasses x = withPasses(1, 1);
        int[][] wrong = {{0, 1}, {0, -1}, {1, 0}, {-1, 0}, {Integer.MAX_VALUE, 0},
            {0, Integer.MAX_VALUE}, {0, Integer.MIN_VALUE}, {Integer.MIN_VALUE, 0}};
        for (int[] pair : wrong) {
            Check.dueIndex("9: hull", () -> x.hull(pair[0], pair[1]) ? 1 : 0);
            Check.dueIndex("10: slope", () -> x.slope(pair[0], pair[1], true));
            Check.dueIndex("10: slope", () -> x.slope(pair[0], pair[1], false));
        }
        x.block();
        Check.dueIndex("9: a block without passes", () -> x.hull(1, 0) ? 1 : 0);
        Check.dueIndex("10: a block without passes", () -> x.slope(1, 0, true));
    }

    private static void duePlace(RatePasses x, int place, int block, int pass, int cost, int same) {
        String call = "12: at(" + place + ", ";
        Check.due(call + "0)", x.at(place, 0), block);
        Check.due(call + "1)", x.at(place, 1), pass);
        Check.due(call + "2)", x.at(place, 2), cost);
        Check.due(call + "3)", x.at(place, 3), same);
    }

    private static void rowOrder() {
        RatePasses x = withPasses(1, 5, 1, 0, 1, 4, 1, 1);
        Make.block(x, 2, 8, 2, 3);
        Make.block(x, 3, -1);
        Make.block(x, 10, 100);
        Check.due("11: row", x.row(), 6);
        duePlace(x, 0, 3, 0, 10, 1);
        duePlace(x, 1, 0, 0, 1, 1);
        duePlace(x, 2, 1, 0, 2, 1);
        duePlace(x, 3, 0, 2, 2, 1);
        duePlace(x, 4, 1, 1, 2, 1);
        duePlace(x, 5, 0, 3, 1, 1);
        x.weight(1, 2);
        duePlace(x, 1, 1, 0, 2, 1);
        duePlace(x, 2, 0, 0, 1, 1);
        x.shift(1, 1);
        duePlace(x, 0, 1, 0, 2, 1);
        duePlace(x, 1, 1, 1, 2, 1);
        duePlace(x, 2, 3, 0, 10, 1);
    }

    private static void equalSlopes() {
        RatePasses x = withPasses(2, 4, 2, 4, 2, 4);
        Make.block(x, 1, 2, 3, 3);
        Make.block(x, 4, 8, 1, 1);
        Check.due("11: row", x.row(), 5);
        duePlace(x, 0, 0, 2, 6, 3);
        duePlace(x, 1, 1, 0, 1, 3);
        duePlace(x, 2, 2, 0, 4, 3);
        duePlace(x, 3, 1, 1, 3, 2);
        duePlace(x, 4, 2, 1, 1, 2);
        // Told anew, a lesser block still goes before those of the same slope.
        x.weight(0, 2);
        x.weight(0, 1);
        duePlace(x, 0, 0, 2, 6, 3);
        x.weight(1, 2);
        x.weight(1, 1);
        duePlace(x, 1, 1, 0, 1, 3);
    }

    /** Slopes that are nearer to one another than floats can tell. */
    private static void exactOrder() {
        RatePasses x = new RatePasses(1);
        for (int block = 0; block < 2; block++) {
            x.block();
            for (int pass = 0; pass < 23; pass++) {
                x.pass(block, 10000, 1000000);
            }
            x.weight(block, 100);
            x.shift(block, 3);
        }
        x.pass(0, 9998, 999799);
        x.pass(1, 9999, 999899);
        Check.due("11: row", x.row(), 4);
        duePlace(x, 0, 0, 22, 230000, 2);
        duePlace(x, 1, 1, 22, 230000, 2);
        duePlace(x, 2, 1, 23, 9999, 1);
        duePlace(x, 3, 0, 23, 9998, 1);
    }

    private static void atExceptions() {
        RatePasses x = withPasses(1, 2, 1, 1);
        Check.dueIndex("12: place 2", () -> x.at(2, 0));
        Check.dueIndex("12: place -1", () -> x.at(-1, 0));
        Check.dueIndex("12: place before what", () -> x.at(2, 5));
        Check.dueIndex("12: place before state", () -> x.at(2, 4));
        Check.dueArgument("12: what 5", () -> x.at(0, 5));
        Check.dueArgument("12: what -1", () -> x.at(0, -1));
        Check.dueState("12: a layer that is not shared", () -> x.at(0, 4));
        duePlace(x, 0, 0, 0, 1, 1);
        x.size(0, 1);
        x.run();
        Check.due("12: layer", x.at(0, 4), 0);
        Check.due("12: left out", x.at(1, 4), RatePasses.NONE);
        Check.dueArgument("12: what 5", () -> x.at(0, 5));
    }

    /** More calls than are promised, so that the row is as long as it can be. */
    /** 40 blocks of 11 passes, made with 480 calls: place by place through all blocks, then again. */
    private static RatePasses longRow() {
        RatePasses x = new RatePasses(16);
        for (int block = 0; block < 40; block++) {
            x.block();
            for (int pass = 0; pass < 11; pass++) {
                x.pass(block, 10000, 1000000 - pass);
            }
        }
        return x;
    }

    private static void longRowOfAllBlocks() {
        RatePasses x = longRow();
        Check.due("11: row", x.row(), 440);
        Check.due("16: least(440)", x.least(440), 4400000);
        Check.dueIndex("12: place 440", () -> x.at(440, 0));
        x.size(0, 10000000);
        x.run();
        Check.due("14: bytes", x.bytes(0), 4400000);
        Check.due("13: passes", x.passes(0, 39), 11);
        // The 512 calls of one object do not reach to ask for all places.
        for (int first = 0; first < 440; first += 8) {
            RatePasses y = longRow();
            for (int place = first; place < first + 8; place++) {
                duePlace(y, place, place % 40, place / 40, 10000, 40);
            }
        }
    }

    private static void least() {
        RatePasses x = withPasses(3, 9, 4, 4);
        Make.block(x, 5, 10);
        int[] want = {0, 3, 8, 12};
        for (int n = 0; n <= 3; n++) {
            Check.due("16: least(" + n + ")", x.least(n), want[n]);
        }
        Check.dueArgument("16: 4", () -> x.least(4));
        Check.dueArgument("16: -1", () -> x.least(-1));
        Check.dueArgument("16: the least number", () -> x.least(Integer.MIN_VALUE));
        Check.due("16: not shared by it", x.told(3), 0);
        for (int n = 1; n <= 3; n++) {
            x.size(0, x.least(n));
            x.run();
            Check.due("16: it is enough", x.at(n - 1, 4), 0);
            x.size(0, x.least(n) - 1);
            x.run();
            Check.due("16: less is not", x.at(n - 1, 4), RatePasses.NONE);
        }
    }

    private static void above() {
        RatePasses x = withPasses(3, 9, 4, 4);
        Make.block(x, 5, 10);
        Make.block(x, 1, 2);
        Check.due("17: above(3, 1)", x.above(3, 1), 1);
        Check.due("17: above(9, 3)", x.above(9, 3), 1);
        Check.due("17: above(300001, 100000)", x.above(300001, 100000), 0);
        Check.due("17: above(299999, 100000)", x.above(299999, 100000), 1);
        Check.due("17: above(2, 1)", x.above(2, 1), 3);
        Check.due("17: above(1999999, 1000000)", x.above(1999999, 1000000), 3);
        Check.due("17: above(2000001, 1000000)", x.above(2000001, 1000000), 1);
        Check.due("17: above(1, 1)", x.above(1, 1), 4);
        Check.due("17: above(0, 1)", x.above(0, 1), 4);
        Check.due("17: above(-5, 1)", x.above(-5, 1), 4);
        Check.due("17: of an empty row", new RatePasses(1).above(-5, 1), 0);
    }

    /** The bounds are nearer to the slopes than doubles can tell. */
    private static void aboveIsExact() {
        for (int length = 9990; length <= 9994; length += 2) {
            RatePasses x = new RatePasses(1);
            x.block();
            for (int pass = 0; pass < 23; pass++) {
                x.pass(0, 9999, 1000000);
            }
            x.pass(0, length, 999999);
            x.weight(0, 100);
            x.shift(0, 3);
            Check.due("11: row", x.row(), 1);
            long rise = x.slope(0, 23, true);
            long cost = x.slope(0, 23, false);
            int below = greatestL(rise, cost, 1);
            Check.due("17: just below the slope", x.above((rise * below - 1) / cost, below), 1);
            int over = greatestL(rise, cost, cost - 1);
            Check.due("17: just above the slope", x.above((rise * over + 1) / cost, over), 0);
        }
    }

    /** The greatest l with which the slope, times l, is this rest (by the cost) above a whole g. */
    private static int greatestL(long rise, long cost, long rest) {
        int l = 1000000;
        while (l > 0 && rise * l % cost != rest) {
            l--;
        }
        Check.due("such an l is there", l > 0, true);
        return l;
    }

    private static void aboveBounds() {
        RatePasses x = withPasses(1, 1000000);
        x.weight(0, 100);
        x.shift(0, 3);
        Check.due("17: the most g", x.above(1000000000000L, 1), 0);
        Check.due("17: the most of both", x.above(1000000000000L, 1000000), 1);
        Check.due("17: the least g", x.above(-1000000000000L, 1), 1);
        Check.due("17: just so", x.above(6400000000L, 1), 1);
        Check.due("17: just not", x.above(6400000001L, 1), 0);
        Check.dueArgument("17: g over", () -> x.above(1000000000001L, 1));
        Check.dueArgument("17: g under", () -> x.above(-1000000000001L, 1));
        Check.dueArgument("17: the least long", () -> x.above(Long.MIN_VALUE, 1));
        Check.dueArgument("17: l 0", () -> x.above(0, 0));
        Check.dueArgument("17: l -1", () -> x.above(0, -1));
        Check.dueArgument("17: l over", () -> x.above(0, 1000001));
        RatePasses y = new RatePasses(1);
        y.block();
        for (int pass = 0; pass < 24; pass++) {
            y.pass(0, 10000, 1000000);
        }
        y.weight(0, 100);
        y.shift(0, 3);
        Check.due("17: great products", y.above(640000000000L, 1000000), 1);
        Check.due("17: great products", y.above(640000000001L, 1000000), 0);
        Check.due("17: great products", y.above(1000000000000L, 1000000), 0);
        Check.due("17: great products", y.above(1000000000000L, 1), 0);
    }
}
