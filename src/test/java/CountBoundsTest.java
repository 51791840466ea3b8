/**
 * How many there are and may be of layers, blocks, passes, places and calls: none, the most, and one
 * more. One method for each sentence of the document.
 */
public final class CountBoundsTest {
    public static void main(String[] args) {
        tooFewLayers();
        tooManyLayers();
        layersBetween();
        noBlocksAtFirst();
        fortyBlocks();
        lastBlockIsAsGoodAsTheFirst();
        noPassesAtFirst();
        twentyFourPasses();
        eachBlockHasItsOwnPasses();
        emptyRow();
        rowOfOne();
        passesInAll();
        fiveHundredAndTwelveCalls();
        clearedBlocksAreGone();
        clearedPassesAreGone();
        clearMakesRoomAgain();
        clearedLayers();
        clearOfNothing();
        Check.end();
    }

    private static void dueLayers(int told, int want) {
        RatePasses x = new RatePasses(told);
        String name = "1: RatePasses(" + told + "), ";
        Check.due(name + "told(0)", x.told(0), want);
        Check.due(name + "run()", x.run(), want);
        Check.due(name + "bytes of the last", x.bytes(want - 1), 0);
        Check.dueIndex(name + "bytes of one more", () -> x.bytes(want));
        Check.due(name + "size of the last", x.size(want - 1, 5), 0);
        Check.due(name + "head of the last", x.head(want - 1, 6), 0);
        Check.dueIndex(name + "size of one more", () -> x.size(want, 5));
        Check.dueIndex(name + "head of one more", () -> x.head(want, 6));
        Check.due(name + "run() with the last one EMPTY", x.run(), want - 1);
    }

    /** "LAYERS, 1 .. 16 (other numbers count as the nearest of these)": below 1. */
    private static void tooFewLayers() {
        dueLayers(1, 1);
        dueLayers(0, 1);
        dueLayers(-1, 1);
        dueLayers(-16, 1);
        dueLayers(Integer.MIN_VALUE, 1);
        dueLayers(Integer.MIN_VALUE + 16, 1);
    }

    /** "LAYERS, 1 .. 16 (other numbers count as the nearest of these)": above 16. */
    private static void tooManyLayers() {
        dueLayers(16, 16);
        dueLayers(17, 16);
        dueLayers(32, 16);
        dueLayers(257, 16);
        dueLayers(65537, 16);
        dueLayers(Integer.MAX_VALUE, 16);
    }

    /** "So many layers, 1 .. 16" */
    private static void layersBetween() {
        for (int layers = 2; layers <= 15; layers++) {
            dueLayers(layers, layers);
        }
    }

    /** "and no blocks" */
    private static void noBlocksAtFirst() {
        RatePasses x = new RatePasses(1);
        Check.due("1: blocks", x.told(1), 0);
        Check.due("1: passes", x.told(2), 0);
        Check.due("1: shared", x.told(3), 0);
        Check.due("1: row", x.row(), 0);
        Check.dueIndex("1: pass of block 0", () -> x.pass(0, 1, 1));
        Check.dueIndex("1: weight of block 0", () -> x.weight(0, 1));
        Check.dueIndex("1: shift of block 0", () -> x.shift(0, 1));
        Check.dueIndex("1: hull of block 0", () -> x.hull(0, 0) ? 1 : 0);
        Check.dueIndex("1: slope of block 0", () -> x.slope(0, 0, true));
        Check.due("8: run", x.run(), 1);
        Check.dueIndex("1: passes of block 0", () -> x.passes(0, 0));
        Check.due("2: the first block", x.block(), 0);
        Check.due("3: its first pass", x.pass(0, 1, 1), 0);
    }

    /** "BLOCKS have numbers 0, 1, .., 40 at most", and "there would be more than there may be" */
    private static void fortyBlocks() {
        RatePasses x = new RatePasses(1);
        for (int number = 0; number < 40; number++) {
            int next = number;
            Check.dueIndex("2: not there yet", () -> x.weight(next, 1));
            Check.due("2: block()", x.block(), number);
            Check.due("18: blocks", x.told(1), number + 1);
            Check.due("4: the weight at first", x.weight(number, 1), 1);
            Check.due("5: the shift at first", x.shift(number, 0), 0);
        }
        Check.dueUnsupported("2: the 41st block", x::block);
        Check.dueUnsupported("2: the 41st block once more", x::block);
        Check.due("18: blocks", x.told(1), 40);
        Check.dueIndex("4: block 40", () -> x.weight(40, 1));
        Check.dueIndex("3: block 40", () -> x.pass(40, 1, 1));
    }

    /** "BLOCKS have numbers 0, 1, .., 40 at most": the 40th has all that a block has. */
    private static void lastBlockIsAsGoodAsTheFirst() {
        RatePasses x = new RatePasses(1);
        for (int number = 0; number < 40; number++) {
            x.block();
        }
        x.pass(0, 2, 2);
        x.pass(39, 1, 1);
        Check.due("12: of equal slopes the lesser block first", x.at(0, 0), 0);
        Check.due("12: the last block", x.at(1, 0), 39);
        Check.due("4: weight", x.weight(39, 100), 1);
        Check.due("5: shift", x.shift(39, 3), 0);
        Check.due("12: the last block", x.at(0, 0), 39);
        for (int pass = 1; pass < 24; pass++) {
            Check.due("3: pass", x.pass(39, 1, 1), pass);
        }
        Check.dueUnsupported("3: the 25th pass", () -> x.pass(39, 1, 1));
        Check.due("9: hull", x.hull(39, 23), true);
        Check.due("10: slope", x.slope(39, 23, true), 24 * 6400);
        Check.due("10: slope", x.slope(39, 23, false), 24);
        Check.dueIndex("9: hull(39, 24)", () -> x.hull(39, 24) ? 1 : 0);
        x.size(0, 24);
        x.run();
        Check.due("13: passes", x.passes(0, 39), 24);
        Check.due("13: passes of a block without any", x.passes(0, 38), 0);
    }

    /** A new block has no pass: its pass 0 is "no such pass". */
    private static void noPassesAtFirst() {
        RatePasses x = new RatePasses(1);
        x.block();
        x.block();
        x.pass(1, 1, 1);
        Check.dueIndex("9: hull(0, 0)", () -> x.hull(0, 0) ? 1 : 0);
        Check.dueIndex("10: slope(0, 0, true)", () -> x.slope(0, 0, true));
        x.run();
        Check.due("13: passes(0, 0)", x.passes(0, 0), 0);
        x.pass(0, 1, -1);
        Check.due("9: hull(0, 0)", x.hull(0, 0), false);
        Check.dueIndex("9: hull(0, 1)", () -> x.hull(0, 1) ? 1 : 0);
    }

    /** "PASSES 0, 1, .., 24 at most", and "there would be more than there may be" */
    private static void twentyFourPasses() {
        RatePasses x = new RatePasses(1);
        x.block();
        for (int number = 0; number < 24; number++) {
            int next = number;
            Check.dueIndex("9: not there yet", () -> x.hull(0, next) ? 1 : 0);
            Check.due("3: pass()", x.pass(0, 1, 24 - number), number);
            Check.due("18: passes", x.told(2), number + 1);
            Check.due("11: row", x.row(), number + 1);
            Check.due("9: hull", x.hull(0, number), true);
        }
        Check.dueUnsupported("3: the 25th pass", () -> x.pass(0, 1, 1));
        Check.dueUnsupported("3: the 25th pass once more", () -> x.pass(0, 10000, -1000000));
        Check.due("18: passes", x.told(2), 24);
        Check.due("11: row", x.row(), 24);
        Check.due("9: hull", x.hull(0, 23), true);
        Check.dueIndex("9: hull(0, 24)", () -> x.hull(0, 24) ? 1 : 0);
        Check.dueIndex("10: slope(0, 24, false)", () -> x.slope(0, 24, false));
    }

    /** The most passes are those of one block: a full block takes no room from another. */
    private static void eachBlockHasItsOwnPasses() {
        RatePasses x = new RatePasses(1);
        for (int block = 0; block < 3; block++) {
            x.block();
        }
        for (int pass = 0; pass < 24; pass++) {
            x.pass(1, 1, 24 - pass);
        }
        Check.dueUnsupported("3: the full block", () -> x.pass(1, 1, 1));
        Check.due("3: the block before", x.pass(0, 1, 100), 0);
        Check.due("3: the block behind", x.pass(2, 1, 50), 0);
        Check.due("11: row", x.row(), 26);
        // The passes of neighbours are not to be had by numbers beyond a block's own.
        int[] beyond = {1, 23, 24, 25, 26, 48, 49, 50};
        for (int pass : beyond) {
            Check.dueIndex("9: hull(0, " + pass + ")", () -> x.hull(0, pass) ? 1 : 0);
            Check.dueIndex("9: hull(2, " + -pass + ")", () -> x.hull(2, -pass) ? 1 : 0);
        }
        Check.due("10: slope(0, 0, true)", x.slope(0, 0, true), 100);
        Check.due("10: slope(1, 0, true)", x.slope(1, 0, true), 24);
        Check.due("10: slope(1, 23, true)", x.slope(1, 23, true), 1);
        Check.due("10: slope(2, 0, true)", x.slope(2, 0, true), 50);
    }

    /** A row without hull passes, though there are blocks and passes. */
    private static void emptyRow() {
        RatePasses x = new RatePasses(2);
        x.size(0, 10000000);
        x.size(1, 10000000);
        Make.block(x);
        Make.block(x, 1, 0, 1, -1);
        Check.due("11: row", x.row(), 0);
        for (int number = 0; number <= 4; number++) {
            int what = number;
            Check.dueIndex("12: at(0, " + what + ")", () -> x.at(0, what));
        }
        Check.due("16: least(0)", x.least(0), 0);
        Check.dueArgument("16: least(1)", () -> x.least(1));
        Check.due("17: above(-1000000000000, 1)", x.above(-1000000000000L, 1), 0);
        Check.due("8: run", x.run(), 2);
        Check.due("13: passes", x.passes(1, 1), 0);
        Check.due("14: bytes", x.bytes(1), 0);
        Check.due("15: gained", x.gained(1), 0);
        Check.dueIndex("12: at(0, 4), shared", () -> x.at(0, 4));
    }

    /** "How many hull passes there are in the row": one, and none again. */
    private static void rowOfOne() {
        RatePasses x = Make.oneBlock(1, 1);
        Check.due("11: row", x.row(), 1);
        Check.due("12: at(0, 3)", x.at(0, 3), 1);
        Check.dueIndex("12: at(1, 3)", () -> x.at(1, 3));
        Check.due("16: least(1)", x.least(1), 1);
        Check.dueArgument("16: least(2)", () -> x.least(2));
        x.clear();
        Check.due("11: row", x.row(), 0);
        Check.dueIndex("12: at(0, 3)", () -> x.at(0, 3));
        Check.dueArgument("16: least(1)", () -> x.least(1));
    }

    /** "passes in all (2)": of all blocks, on the hull or not, shared or left out. */
    private static void passesInAll() {
        RatePasses x = new RatePasses(1);
        Check.due("18: none", x.told(2), 0);
        Make.block(x, 1, 1);
        Check.due("18: one", x.told(2), 1);
        Make.block(x, 1, -1, 1, 0);
        Check.due("18: those off the hull too", x.told(2), 3);
        x.run();
        Check.due("18: those left out too", x.told(2), 3);
    }

    /** "An object is used for at most 512 calls": the fullest object, its 512th call answers too. */
    private static void fiveHundredAndTwelveCalls() {
        RatePasses x = new RatePasses(16);
        for (int block = 0; block < 20; block++) {
            x.block();
            for (int pass = 0; pass < 24; pass++) {
                Check.due("3: pass", x.pass(block, 10000, 1000000 - pass), pass);
            }
        }
        // 500 calls until here.
        x.weight(0, 100);
        x.shift(0, 3);
        x.size(0, 10000000);
        Check.due("8: run", x.run(), 16);
        Check.due("11: row", x.row(), 480);
        Check.due("16: least", x.least(480), 4800000);
        Check.due("14: bytes", x.bytes(0), 4800000);
        long gain = 24000000 - 276;
        Check.due("15: gained", x.gained(15), gain * 6400 + 19 * gain);
        Check.due("13: passes", x.passes(0, 19), 24);
        Check.due("12: place", x.at(479, 0), 19);
        Check.due("12: the same slope", x.at(24, 3), 19);
        Check.due("18: the 512th call", x.told(2), 480);
    }

    /** "No blocks": those before are no such blocks, also when fewer have come since. */
    private static void clearedBlocksAreGone() {
        RatePasses x = Make.sharedSample();
        x.clear();
        Check.due("19: blocks", x.told(1), 0);
        Check.due("19: row", x.row(), 0);
        Check.dueIndex("19: block 0", () -> x.hull(0, 0) ? 1 : 0);
        Check.dueIndex("19: place 0", () -> x.at(0, 0));
        Check.due("19: the first block", x.block(), 0);
        Check.dueIndex("19: block 1", () -> x.weight(1, 1));
        Check.dueIndex("19: block 1", () -> x.hull(1, 0) ? 1 : 0);
        x.run();
        Check.dueIndex("19: block 1", () -> x.passes(0, 1));
    }

    /** "No blocks": a block of the same number has nothing of the one before. */
    private static void clearedPassesAreGone() {
        RatePasses x = Make.sample();
        x.weight(0, 100);
        x.shift(0, 3);
        x.clear();
        Check.due("19: passes", x.told(2), 0);
        x.block();
        Check.due("19: row", x.row(), 0);
        Check.dueIndex("19: pass 0", () -> x.hull(0, 0) ? 1 : 0);
        Check.due("19: the first pass", x.pass(0, 3, 2), 0);
        Check.dueIndex("19: pass 1", () -> x.hull(0, 1) ? 1 : 0);
        Check.due("19: passes", x.told(2), 1);
        Check.due("19: g", x.slope(0, 0, true), 2);
        Check.due("19: l", x.slope(0, 0, false), 3);
        Check.due("19: weight", x.weight(0, 1), 1);
        Check.due("19: shift", x.shift(0, 0), 0);
        Check.due("19: row", x.row(), 1);
        Check.due("19: least", x.least(1), 3);
    }

    /** "No blocks": of a full object, there may be as many again. */
    private static void clearMakesRoomAgain() {
        RatePasses x = new RatePasses(1);
        for (int round = 0; round < 2; round++) {
            for (int number = 0; number < 40; number++) {
                Check.due("19: block()", x.block(), number);
            }
            Check.dueUnsupported("19: the 41st block", x::block);
            for (int number = 0; number < 24; number++) {
                Check.due("19: pass()", x.pass(39, 1, 1), number);
            }
            Check.dueUnsupported("19: the 25th pass", () -> x.pass(39, 1, 1));
            Check.due("19: passes in all", x.told(2), 24);
            x.clear();
        }
    }

    /** "sizes and heads are 0": of all layers, and there are as many as before. */
    private static void clearedLayers() {
        RatePasses x = new RatePasses(16);
        for (int layer = 0; layer < 16; layer++) {
            x.size(layer, 10000000);
            x.head(layer, 9999999);
        }
        x.run();
        x.clear();
        Check.due("19: layers", x.told(0), 16);
        Check.due("19: shared", x.told(3), 0);
        Check.due("8: run", x.run(), 16);
        for (int layer = 0; layer < 16; layer++) {
            Check.due("19: bytes(" + layer + ")", x.bytes(layer), 0);
        }
        for (int layer = 0; layer < 16; layer++) {
            Check.due("19: size(" + layer + ")", x.size(layer, 0), 0);
            Check.due("19: head(" + layer + ")", x.head(layer, 0), 0);
        }
    }

    /** "No blocks; sizes and heads are 0": of an object that has none, and twice. */
    private static void clearOfNothing() {
        RatePasses x = new RatePasses(2);
        x.clear();
        x.clear();
        Check.due("19: layers", x.told(0), 2);
        Check.due("19: blocks", x.told(1), 0);
        Check.due("19: passes", x.told(2), 0);
        Check.due("19: shared", x.told(3), 0);
        Check.due("8: run", x.run(), 2);
    }
}
