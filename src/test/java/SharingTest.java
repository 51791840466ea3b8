/** Promises 8 and 13 to 15: sharing, and what the layers have then. */
public final class SharingTest {
    public static void main(String[] args) {
        fillsInOrder();
        stopsAtTheFirstTooLong();
        emptyLayers();
        headsCount();
        passesOffTheHull();
        gainedHasWeightAndShift();
        sharedAnew();
        nothingToShare();
        exceptions();
        Check.end();
    }

    private static void dueLayer(RatePasses x, int layer, int bytes, long gained, int... passes) {
        Check.due("14: bytes(" + layer + ")", x.bytes(layer), bytes);
        Check.due("15: gained(" + layer + ")", x.gained(layer), gained);
        for (int block = 0; block < passes.length; block++) {
            Check.due("13: passes(" + layer + ", " + block + ")", x.passes(layer, block), passes[block]);
        }
    }

    private static void dueLayers(RatePasses x, int... layers) {
        for (int place = 0; place < layers.length; place++) {
            Check.due("12: at(" + place + ", 4)", x.at(place, 4), layers[place]);
        }
    }

    /** Costs in the row: 2 (block 0), 3 (block 1), 4 (block 0), 5 (block 1). */
    private static RatePasses twoBlocks(int layers) {
        RatePasses x = new RatePasses(layers);
        Make.block(x, 2, 20, 4, 20);
        Make.block(x, 3, 24, 5, 5);
        return x;
    }

    private static void fillsInOrder() {
        RatePasses x = twoBlocks(3);
        x.size(0, 5);
        x.size(1, 4);
        x.size(2, 4);
        Check.due("8: run", x.run(), 3);
        dueLayer(x, 0, 5, 44, 1, 1);
        dueLayer(x, 1, 4, 64, 2, 1);
        dueLayer(x, 2, 0, 64, 2, 1);
        dueLayers(x, 0, 0, 1, RatePasses.NONE);
    }

    private static void stopsAtTheFirstTooLong() {
        RatePasses x = new RatePasses(2);
        Make.block(x, 1, 100);
        Make.block(x, 9, 90);
        Make.block(x, 1, 1);
        x.size(0, 9);
        x.size(1, 8);
        Check.due("8: run", x.run(), 2);
        dueLayer(x, 0, 1, 100, 1, 0, 0);
        dueLayer(x, 1, 0, 100, 1, 0, 0);
        dueLayers(x, 0, RatePasses.NONE, RatePasses.NONE);
        x.size(1, 10);
        x.run();
        dueLayer(x, 0, 1, 100, 1, 0, 0);
        dueLayer(x, 1, 10, 191, 1, 1, 1);
        dueLayers(x, 0, 1, 1);
    }

    private static void emptyLayers() {
        RatePasses x = twoBlocks(4);
        x.size(0, 100);
        x.head(0, 101);
        x.size(1, 5);
        x.head(1, 5);
        x.size(2, 5);
        x.head(3, 1);
        Check.due("8: run", x.run(), 2);
        dueLayer(x, 0, 0, 0, 0, 0);
        dueLayer(x, 1, 5, 0, 0, 0);
        dueLayer(x, 2, 5, 44, 1, 1);
        dueLayer(x, 3, 0, 44, 1, 1);
        dueLayers(x, 2, 2, RatePasses.NONE, RatePasses.NONE);
        for (int layer = 0; layer < 4; layer++) {
            x.size(layer, 0);
            x.head(layer, 1);
        }
        Check.due("8: all empty", x.run(), 0);
        dueLayer(x, 3, 0, 0, 0, 0);
    }

    private static void headsCount() {
        RatePasses x = twoBlocks(2);
        x.size(0, 6);
        x.head(0, 2);
        x.size(1, 14);
        x.head(1, 2);
        Check.due("8: run", x.run(), 2);
        dueLayer(x, 0, 4, 20, 1, 0);
        dueLayer(x, 1, 14, 69, 2, 2);
        x.size(0, 10000000);
        x.head(0, 10000000);
        Check.due("8: a head as great as the size", x.run(), 2);
        dueLayer(x, 0, 10000000, 0, 0, 0);
        x.head(0, 10000000 - 13);
        x.run();
        dueLayer(x, 0, 9999996, 64, 2, 1);
    }

    private static void passesOffTheHull() {
        RatePasses x = new RatePasses(2);
        Make.block(x, 1, -2, 1, 12, 1, 0, 1, 5, 1, -9);
        Make.block(x, 1, -1);
        Check.due("11: row", x.row(), 2);
        x.size(0, 2);
        x.size(1, 100);
        x.run();
        dueLayer(x, 0, 2, 10, 2, 0);
        dueLayer(x, 1, 2, 15, 4, 0);
    }

    private static void gainedHasWeightAndShift() {
        RatePasses x = new RatePasses(1);
        for (int block = 0; block < 10; block++) {
            x.block();
            for (int pass = 0; pass < 24; pass++) {
                x.pass(block, 10000, 1000000);
            }
            x.weight(block, 100);
            x.shift(block, 3);
        }
        x.size(0, 10000000);
        x.run();
        dueLayer(x, 0, 2400000, 1536000000000L, 24, 24);
        x.shift(3, 0);
        x.weight(3, 1);
        x.run();
        dueLayer(x, 0, 2400000, 9 * 153600000000L + 24000000L, 24, 24);
    }

    private static void sharedAnew() {
        RatePasses x = twoBlocks(2);
        x.size(0, 14);
        x.run();
        dueLayer(x, 0, 14, 69, 2, 2);
        x.size(0, 2);
        x.size(1, 3);
        x.run();
        dueLayer(x, 0, 2, 20, 1, 0);
        dueLayer(x, 1, 3, 44, 1, 1);
        x.head(0, 3);
        x.run();
        dueLayer(x, 0, 0, 0, 0, 0);
        dueLayer(x, 1, 2, 20, 1, 0);
        Check.due("8: run twice", x.run(), 1);
        dueLayer(x, 1, 2, 20, 1, 0);
    }

    private static void nothingToShare() {
        RatePasses x = new RatePasses(2);
        x.size(0, 7);
        x.head(1, 1);
        Check.due("8: run", x.run(), 1);
        dueLayer(x, 0, 0, 0);
        dueLayer(x, 1, 0, 0);
    }

    private static void exceptions() {
        RatePasses x = twoBlocks(2);
        Check.dueState("13: not shared", () -> x.passes(0, 0));
        Check.dueState("14: not shared", () -> x.bytes(0));
        Check.dueState("15: not shared", () -> x.gained(0));
        Check.dueState("13: state before layer", () -> x.passes(2, 0));
        Check.dueState("14: state before layer", () -> x.bytes(2));
        Check.dueState("15: state before layer", () -> x.gained(-1));
        x.run();
        int[] wrong = {2, -1, Integer.MAX_VALUE, Integer.MIN_VALUE};
        for (int number : wrong) {
            Check.dueIndex("13: layer", () -> x.passes(number, 0));
            Check.dueIndex("13: block", () -> x.passes(0, number));
            Check.dueIndex("14: layer", () -> x.bytes(number));
            Check.dueIndex("15: layer", () -> x.gained(number));
        }
    }
}
