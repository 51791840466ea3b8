/** Promises 1 to 7, 18 and 19: what is told to an object, and what it tells back. */
public final class TellingTest {
    public static void main(String[] args) {
        newObject();
        block();
        pass();
        weight();
        shift();
        layerNumbers();
        toldNumbers();
        clear();
        clearForgetsBlocks();
        Check.end();
    }

    private static void newObject() {
        int[][] layers = {{1, 1}, {2, 2}, {15, 15}, {16, 16}, {17, 16}, {0, 1}, {-1, 1},
            {Integer.MAX_VALUE, 16}, {Integer.MIN_VALUE, 1}};
        for (int[] pair : layers) {
            RatePasses x = new RatePasses(pair[0]);
            Check.due("1: layers of " + pair[0], x.told(0), pair[1]);
            Check.due("1: blocks", x.told(1), 0);
            Check.due("1: passes", x.told(2), 0);
            Check.due("1: shared", x.told(3), 0);
            Check.due("1: row", x.row(), 0);
            Check.dueState("1: bytes(0)", () -> x.bytes(0));
            Check.due("1: size of the last layer", x.size(pair[1] - 1, 0), 0);
            Check.due("1: head of the last layer", x.head(pair[1] - 1, 0), 0);
            Check.dueIndex("1: size behind the last layer", () -> x.size(pair[1], 0));
            Check.dueIndex("1: block 0", () -> x.pass(0, 1, 1));
            Check.due("1: run", x.run(), pair[1]);
        }
    }

    private static void block() {
        RatePasses x = new RatePasses(1);
        for (int number = 0; number < 40; number++) {
            Check.due("2: block()", x.block(), number);
            Check.due("2: blocks", x.told(1), number + 1);
        }
        x.run();
        Check.dueUnsupported("2: the 41st block", x::block);
        Check.due("2: blocks", x.told(1), 40);
        Check.due("2: still shared", x.told(3), 1);
        Check.due("2: the last block's pass", x.pass(39, 1, 1), 0);
        Check.dueIndex("2: pass(40)", () -> x.pass(40, 1, 1));
    }

    private static void pass() {
        RatePasses x = new RatePasses(1);
        x.block();
        x.block();
        Check.due("3: the least", x.pass(0, 1, -1000000), 0);
        Check.due("3: the most", x.pass(0, 10000, 1000000), 1);
        Check.due("3: another block", x.pass(1, 5, 0), 0);
        for (int number = 2; number < 24; number++) {
            Check.due("3: pass(0)", x.pass(0, 1, 1), number);
        }
        Check.due("3: passes", x.told(2), 25);
        x.run();
        Check.dueUnsupported("3: the 25th pass", () -> x.pass(0, 1, 1));
        Check.due("3: passes", x.told(2), 25);
        Check.due("3: still shared", x.told(3), 1);
        Check.dueIndex("3: hull(0, 24)", () -> x.hull(0, 24) ? 1 : 0);
        Check.due("3: the other block has room", x.pass(1, 5, 0), 1);
    }

    private static void weight() {
        RatePasses x = new RatePasses(1);
        x.block();
        x.block();
        x.pass(0, 2, 3);
        x.pass(1, 2, 3);
        Check.due("4: at first", x.weight(0, 100), 1);
        Check.due("4: g", x.slope(0, 0, true), 300);
        Check.due("4: l", x.slope(0, 0, false), 2);
        Check.due("4: g of another block", x.slope(1, 0, true), 3);
        Check.due("4: then", x.weight(0, 1), 100);
        Check.due("4: g", x.slope(0, 0, true), 3);
        x.run();
        Check.dueArgument("4: 0", () -> x.weight(0, 0));
        Check.dueArgument("4: 101", () -> x.weight(0, 101));
        Check.dueIndex("4: block 2", () -> x.weight(2, 1));
        Check.dueIndex("4: block before weight", () -> x.weight(-1, 0));
        Check.due("4: still shared", x.told(3), 1);
        Check.due("4: nothing changed", x.weight(0, 7), 1);
        x.pass(0, 1, 1);
        Check.due("4: a pass told later", x.slope(0, 1, true), 7);
    }

    private static void shift() {
        RatePasses x = new RatePasses(1);
        x.block();
        x.block();
        x.pass(0, 2, 3);
        x.pass(1, 2, 3);
        long[] g = {3, 12, 48, 192};
        for (int shift = 1; shift <= 3; shift++) {
            Check.due("5: the one before", x.shift(0, shift), shift - 1);
            Check.due("5: g", x.slope(0, 0, true), g[shift]);
            Check.due("5: l", x.slope(0, 0, false), 2);
        }
        Check.due("5: g of another block", x.slope(1, 0, true), 3);
        x.weight(0, 10);
        Check.due("5: g with a weight", x.slope(0, 0, true), 1920);
        x.run();
        Check.dueArgument("5: 4", () -> x.shift(0, 4));
        Check.dueArgument("5: -1", () -> x.shift(0, -1));
        Check.dueIndex("5: block 2", () -> x.shift(2, 0));
        Check.dueIndex("5: block before shift", () -> x.shift(2, 4));
        Check.due("5: still shared", x.told(3), 1);
        Check.due("5: nothing changed", x.shift(0, 0), 3);
        Check.due("5: g", x.slope(0, 0, true), 30);
    }

    private static void layerNumbers() {
        RatePasses x = new RatePasses(2);
        Check.due("6: at first", x.size(1, 10000000), 0);
        Check.due("6: then", x.size(1, 4), 10000000);
        Check.due("6: then", x.size(1, 0), 4);
        Check.due("6: another layer", x.size(0, 3), 0);
        Check.due("7: at first", x.head(1, 10000000), 0);
        Check.due("7: then", x.head(1, 5), 10000000);
        Check.due("7: then", x.head(1, 0), 5);
        Check.due("7: another layer", x.head(0, 2), 0);
        Check.dueArgument("6: -1", () -> x.size(0, -1));
        Check.dueArgument("6: 10000001", () -> x.size(0, 10000001));
        Check.dueIndex("6: layer 2", () -> x.size(2, 0));
        Check.dueIndex("6: layer before bytes", () -> x.size(-1, -1));
        Check.dueArgument("7: -1", () -> x.head(0, -1));
        Check.dueArgument("7: 10000001", () -> x.head(0, 10000001));
        Check.dueIndex("7: layer 2", () -> x.head(2, 0));
        Check.dueIndex("7: layer before bytes", () -> x.head(-1, -1));
        Check.due("6: nothing changed", x.size(0, 3), 3);
        Check.due("7: nothing changed", x.head(0, 2), 2);
    }

    private static void toldNumbers() {
        RatePasses x = new RatePasses(5);
        x.block();
        x.block();
        x.pass(1, 1, 1);
        x.pass(1, 1, -1);
        x.pass(0, 1, 1);
        Check.due("18: layers", x.told(0), 5);
        Check.due("18: blocks", x.told(1), 2);
        Check.due("18: passes, those off the hull too", x.told(2), 3);
        Check.due("18: shared", x.told(3), 0);
        x.run();
        Check.due("18: shared", x.told(3), 1);
        int[] others = {4, 5, -1, Integer.MAX_VALUE, Integer.MIN_VALUE};
        for (int what : others) {
            Check.due("18: told(" + what + ")", x.told(what), RatePasses.NONE);
        }
    }

    private static void clear() {
        RatePasses x = new RatePasses(3);
        x.block();
        x.pass(0, 3, 3);
        x.size(0, 3);
        x.size(2, 9);
        x.head(2, 10);
        Check.due("19: run before", x.run(), 2);
        x.clear();
        Check.due("19: layers stay", x.told(0), 3);
        Check.due("19: blocks", x.told(1), 0);
        Check.due("19: passes", x.told(2), 0);
        Check.due("19: shared", x.told(3), 0);
        Check.due("19: row", x.row(), 0);
        Check.dueIndex("19: hull(0, 0)", () -> x.hull(0, 0) ? 1 : 0);
        Check.dueIndex("19: at(0, 0)", () -> x.at(0, 0));
        Check.dueState("19: bytes(0)", () -> x.bytes(0));
        Check.due("19: run", x.run(), 3);
        Check.due("19: bytes(0)", x.bytes(0), 0);
        Check.due("19: bytes(2)", x.bytes(2), 0);
        Check.due("19: gained(2)", x.gained(2), 0);
        Check.due("19: size(0)", x.size(0, 0), 0);
        Check.due("19: size(2)", x.size(2, 0), 0);
        Check.due("19: head(2)", x.head(2, 0), 0);
    }

    private static void clearForgetsBlocks() {
        RatePasses x = new RatePasses(1);
        for (int round = 0; round < 3; round++) {
            for (int number = 0; number < 40; number++) {
                Check.due("19: block()", x.block(), number);
            }
            Check.due("19: a new block's weight", x.weight(0, 9), 1);
            Check.due("19: a new block's shift", x.shift(0, 2), 0);
            Check.due("19: its first pass", x.pass(0, 4, 5), 0);
            Check.due("19: its second pass", x.pass(0, 4, 1), 1);
            Check.due("19: g", x.slope(0, 0, true), 5 * 9 * 16);
            Check.due("19: l", x.slope(0, 0, false), 4);
            Check.due("19: passes", x.told(2), 2);
            Check.due("19: row", x.row(), 2);
            x.clear();
        }
    }
}
