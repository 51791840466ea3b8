/**
 * Promises 8, 12 to 16 at their boundaries: layers that are EMPTY, just full, or one byte too small,
 * and what is left out. One method for each sentence of the document.
 */
public final class LayerBoundsTest {
    private static final int NONE = RatePasses.NONE;

    public static void main(String[] args) {
        emptyIfTheHeadIsAboveTheSize();
        emptyAtTheGreatestNumbers();
        emptyLayersCountNot();
        emptyHasNothingNorAHead();
        layerWithoutRoomIsNotEmpty();
        costNotAboveTheSize();
        costAndHeadNotAboveTheSize();
        severalCostsNotAboveTheSize();
        upToTheFirstTooLong();
        nextLayerGoesOn();
        leftOutByOneByte();
        noneLeftOut();
        allLeftOut();
        firstAndLastLayer();
        costsOverPassesOffTheHull();
        passesUpToOneLayer();
        passesWithThoseOffTheHull();
        bytesWithTheHead();
        bytesOfTheGreatest();
        gainedUpToOneLayer();
        gainedWithLosses();
        gainedBeyondAnInt();
        leastIsJustEnough();
        sharedOnceMore();
        Check.end();
    }

    private static void dueLayers(RatePasses x, int... layers) {
        for (int place = 0; place < layers.length; place++) {
            Check.due("12: at(" + place + ", 4)", x.at(place, 4), layers[place]);
        }
    }

    private static void dueBytes(RatePasses x, int... bytes) {
        for (int layer = 0; layer < bytes.length; layer++) {
            Check.due("14: bytes(" + layer + ")", x.bytes(layer), bytes[layer]);
        }
    }

    private static void tell(RatePasses x, int layer, int size, int head) {
        x.size(layer, size);
        x.head(layer, head);
    }

    /** A row of costs 2, 3, 4 and 5 with gains 20, 24, 20, 5: of the blocks 0, 1, 0, 1. */
    private static RatePasses fourCosts(int layers) {
        RatePasses x = new RatePasses(layers);
        Make.block(x, 2, 20, 4, 20);
        Make.block(x, 3, 24, 5, 5);
        return x;
    }

    /** "if its head is above its size, a layer is EMPTY" */
    private static void emptyIfTheHeadIsAboveTheSize() {
        int[][] want = {{0, 0, 1}, {0, 1, 0}, {1, 0, 1}, {6, 5, 1}, {6, 6, 1}, {6, 7, 0}};
        for (int[] row : want) {
            RatePasses x = new RatePasses(1);
            tell(x, 0, row[0], row[1]);
            String name = "a size of " + row[0] + " and a head of " + row[1];
            Check.due("8: run with " + name, x.run(), row[2]);
            Check.due("14: bytes with " + name, x.bytes(0), row[2] * row[1]);
        }
    }

    /** "if its head is above its size, a layer is EMPTY": both at most 10000000. */
    private static void emptyAtTheGreatestNumbers() {
        RatePasses x = fourCosts(3);
        tell(x, 0, 9999999, 10000000);
        tell(x, 1, 10000000, 10000000);
        tell(x, 2, 10000000, 9999999);
        Check.due("8: run", x.run(), 2);
        dueBytes(x, 0, 10000000, 9999999);
        dueLayers(x, NONE, NONE, NONE, NONE);
    }

    /** "how many layers are not EMPTY": none, some, all. */
    private static void emptyLayersCountNot() {
        RatePasses x = new RatePasses(16);
        for (int layer = 0; layer < 16; layer++) {
            Check.due("8: run", x.run(), 16 - layer);
            x.head(layer, 1);
        }
        Check.due("8: all are EMPTY", x.run(), 0);
        for (int layer = 0; layer < 16; layer++) {
            x.size(layer, 1);
            Check.due("8: run", x.run(), layer + 1);
        }
    }

    /** "a layer is EMPTY, and has nothing, nor a head": the next one has what it could have had. */
    private static void emptyHasNothingNorAHead() {
        RatePasses x = fourCosts(4);
        tell(x, 0, 100, 101);
        tell(x, 1, 2, 0);
        tell(x, 2, 13, 14);
        tell(x, 3, 7, 0);
        Check.due("8: run", x.run(), 2);
        dueBytes(x, 0, 2, 0, 7);
        dueLayers(x, 1, 3, 3, NONE);
        Check.due("13: an EMPTY first layer", x.passes(0, 0), 0);
        Check.due("15: an EMPTY first layer", x.gained(0), 0);
        Check.due("13: an EMPTY layer has those of the layers before it", x.passes(2, 0), 1);
        Check.due("15: an EMPTY layer has those of the layers before it", x.gained(2), 20);
        x.head(0, 100);
        Check.due("8: its head is all it has", x.run(), 3);
        dueBytes(x, 100, 2, 0, 7);
    }

    /** "else it has its head": also if no pass has room in it, and then it is not EMPTY. */
    private static void layerWithoutRoomIsNotEmpty() {
        RatePasses x = fourCosts(3);
        tell(x, 0, 0, 0);
        tell(x, 1, 4, 3);
        tell(x, 2, 2, 0);
        Check.due("8: run", x.run(), 3);
        dueBytes(x, 0, 3, 2);
        dueLayers(x, 2, NONE, NONE, NONE);
    }

    /** "with costs and head not above its size": a head of 0. */
    private static void costNotAboveTheSize() {
        for (int beside = -1; beside <= 1; beside++) {
            RatePasses x = Make.oneBlock(7, 1);
            x.size(0, 7 + beside);
            Check.due("8: run", x.run(), 1);
            dueBytes(x, beside < 0 ? 0 : 7);
            dueLayers(x, beside < 0 ? NONE : 0);
        }
    }

    /** "with costs and head not above its size": a head too. */
    private static void costAndHeadNotAboveTheSize() {
        int[] sizes = {10, 10000000};
        for (int size : sizes) {
            for (int beside = -1; beside <= 1; beside++) {
                RatePasses x = Make.oneBlock(7, 1);
                tell(x, 0, size, size - 7 + beside);
                Check.due("8: run", x.run(), 1);
                dueBytes(x, beside > 0 ? size - 7 + beside : size + beside);
                dueLayers(x, beside > 0 ? NONE : 0);
            }
        }
    }

    /** "as many of the row's next hull passes as there are with costs and head not above its size" */
    private static void severalCostsNotAboveTheSize() {
        int[] sums = {0, 2, 5, 9, 14};
        for (int size = 0; size <= 15; size++) {
            int taken = 0;
            while (taken < 4 && sums[taken + 1] <= size) {
                taken++;
            }
            RatePasses x = fourCosts(1);
            tell(x, 0, size + 3, 3);
            x.run();
            dueBytes(x, 3 + sums[taken]);
            for (int place = 0; place < 4; place++) {
                Check.due("12: at(" + place + ", 4) of size " + size, x.at(place, 4), place < taken ? 0 : NONE);
            }
        }
    }

    /** "up to the first one with which they would be": no shorter one behind it goes in. */
    private static void upToTheFirstTooLong() {
        RatePasses x = new RatePasses(2);
        Make.block(x, 1, 100, 1, 1);
        Make.block(x, 9, 90);
        Make.block(x, 1, 2);
        tell(x, 0, 9, 0);
        tell(x, 1, 8, 0);
        Check.due("8: run", x.run(), 2);
        dueBytes(x, 1, 0);
        dueLayers(x, 0, NONE, NONE, NONE);
        x.size(1, 9);
        x.run();
        dueBytes(x, 1, 9);
        dueLayers(x, 0, 1, NONE, NONE);
        x.size(0, 10);
        x.run();
        dueBytes(x, 10, 2);
        dueLayers(x, 0, 0, 1, 1);
    }

    /** "layers one after the other", "the row's next hull passes": none twice, none passed over. */
    private static void nextLayerGoesOn() {
        RatePasses x = fourCosts(4);
        tell(x, 0, 4, 0);
        tell(x, 1, 6, 2);
        tell(x, 2, 4, 0);
        tell(x, 3, 5, 0);
        Check.due("8: run", x.run(), 4);
        dueBytes(x, 2, 5, 4, 5);
        dueLayers(x, 0, 1, 2, 3);
    }

    /** "What the last layer leaves is left out.", and "NONE if it is left out" */
    private static void leftOutByOneByte() {
        RatePasses x = fourCosts(2);
        tell(x, 0, 5, 0);
        tell(x, 1, 8, 0);
        x.run();
        dueLayers(x, 0, 0, 1, NONE);
        Check.due("13: passes", x.passes(1, 1), 1);
        Check.due("15: gained", x.gained(1), 64);
        x.size(1, 9);
        x.run();
        dueLayers(x, 0, 0, 1, 1);
        Check.due("13: passes", x.passes(1, 1), 2);
        Check.due("15: gained", x.gained(1), 69);
    }

    /** "What the last layer leaves is left out.": nothing, if an earlier layer has all. */
    private static void noneLeftOut() {
        RatePasses x = fourCosts(3);
        tell(x, 0, 14, 0);
        tell(x, 1, 10000000, 0);
        tell(x, 2, 10000000, 1);
        Check.due("8: run", x.run(), 3);
        dueBytes(x, 14, 0, 1);
        dueLayers(x, 0, 0, 0, 0);
    }

    /** "What the last layer leaves is left out.": all, if no layer has room. */
    private static void allLeftOut() {
        RatePasses x = fourCosts(2);
        tell(x, 0, 1, 0);
        tell(x, 1, 1, 0);
        Check.due("8: run", x.run(), 2);
        dueBytes(x, 0, 0);
        dueLayers(x, NONE, NONE, NONE, NONE);
        Check.due("13: passes", x.passes(1, 0), 0);
        Check.due("15: gained", x.gained(1), 0);
        Check.due("11: they stay in the row", x.row(), 4);
    }

    /** "its layer (4; NONE if it is left out)": the first of one, and the last of 16. */
    private static void firstAndLastLayer() {
        RatePasses x = new RatePasses(16);
        x.block();
        for (int pass = 0; pass < 18; pass++) {
            x.pass(0, 1, 18 - pass);
        }
        for (int layer = 0; layer < 16; layer++) {
            x.size(layer, 1);
        }
        Check.due("8: run", x.run(), 16);
        for (int layer = 0; layer < 16; layer++) {
            Check.due("12: at(" + layer + ", 4)", x.at(layer, 4), layer);
            Check.due("13: passes(" + layer + ", 0)", x.passes(layer, 0), layer + 1);
            Check.due("14: bytes(" + layer + ")", x.bytes(layer), 1);
        }
        Check.due("12: at(16, 4)", x.at(16, 4), NONE);
        Check.due("12: at(17, 4)", x.at(17, 4), NONE);
        x.size(15, 3);
        x.run();
        Check.due("12: at(17, 4)", x.at(17, 4), 15);
        Check.due("13: passes(15, 0)", x.passes(15, 0), 18);
        Check.due("13: passes(14, 0)", x.passes(14, 0), 15);
    }

    /** "its COST is the difference of l": a layer needs room for the passes off the hull before it too. */
    private static void costsOverPassesOffTheHull() {
        for (int beside = -1; beside <= 0; beside++) {
            RatePasses x = Make.oneBlock(4, -1, 5, 3, 6, -2, 7, 4);
            // The hull: pass 1 (2 by 9) and pass 3 (2 by 13).
            Check.due("11: row", x.row(), 2);
            x.size(0, 22 + beside);
            x.run();
            dueBytes(x, beside < 0 ? 9 : 22);
            Check.due("13: passes", x.passes(0, 0), beside < 0 ? 2 : 4);
        }
    }

    /** "How many passes of a block the layers up to one have together": with that one, without the next. */
    private static void passesUpToOneLayer() {
        RatePasses x = fourCosts(4);
        tell(x, 0, 2, 0);
        tell(x, 1, 3, 0);
        tell(x, 2, 4, 0);
        tell(x, 3, 5, 0);
        x.run();
        int[][] want = {{1, 0}, {1, 1}, {2, 1}, {2, 2}};
        for (int layer = 0; layer < 4; layer++) {
            for (int block = 0; block < 2; block++) {
                Check.due("13: passes(" + layer + ", " + block + ")", x.passes(layer, block), want[layer][block]);
            }
        }
    }

    /** "up to the last one that is shared to them, with those before it that are not on the hull" */
    private static void passesWithThoseOffTheHull() {
        RatePasses x = new RatePasses(3);
        Make.block(x, 1, -2, 1, 12, 1, 0, 1, -3, 1, 8, 1, 0, 1, -9);
        Make.block(x, 1, 0, 1, -1);
        tell(x, 0, 2, 0);
        tell(x, 1, 2, 0);
        tell(x, 2, 100, 0);
        x.run();
        Check.due("13: those off the hull before it, not behind", x.passes(0, 0), 2);
        Check.due("13: those off the hull that no hull pass follows yet", x.passes(1, 0), 2);
        Check.due("13: up to the last on the hull", x.passes(2, 0), 5);
        Check.due("13: a block without hull passes", x.passes(2, 1), 0);
    }

    /** "How many bytes a layer has, with its head; 0 for an EMPTY one" */
    private static void bytesWithTheHead() {
        RatePasses x = fourCosts(4);
        tell(x, 0, 6, 4);
        tell(x, 1, 6, 7);
        tell(x, 2, 6, 6);
        tell(x, 3, 6, 0);
        x.run();
        dueBytes(x, 6, 0, 6, 3);
    }

    /** The most bytes: a layer that is full to its last byte. */
    private static void bytesOfTheGreatest() {
        RatePasses x = new RatePasses(2);
        x.block();
        for (int pass = 0; pass < 24; pass++) {
            x.pass(0, 10000, 1000000);
        }
        tell(x, 0, 10000000, 9760001);
        tell(x, 1, 10000000, 9760000);
        x.run();
        dueBytes(x, 9760001, 10000000);
        dueLayers(x, 1);
        Check.due("13: passes", x.passes(0, 0), 0);
        Check.due("13: passes", x.passes(1, 0), 24);
    }

    /** "by the passes that the layers up to one have": with that one, without the next. */
    private static void gainedUpToOneLayer() {
        RatePasses x = fourCosts(4);
        tell(x, 0, 2, 0);
        tell(x, 1, 3, 0);
        tell(x, 2, 4, 0);
        tell(x, 3, 4, 0);
        x.run();
        long[] want = {20, 44, 64, 64};
        for (int layer = 0; layer < 4; layer++) {
            Check.due("15: gained(" + layer + ")", x.gained(layer), want[layer]);
        }
    }

    /** "The sum of g of all blocks": what passes before lost is in it, what passes behind lose is not. */
    private static void gainedWithLosses() {
        RatePasses x = new RatePasses(1);
        Make.block(x, 1, -2, 1, 12, 1, -3, 1, 8, 1, -9);
        Make.block(x, 1, -1000000);
        Make.block(x, 1, 1);
        x.size(0, 100);
        x.run();
        Check.due("15: gained", x.gained(0), 16);
        x.size(0, 2);
        x.run();
        Check.due("15: gained", x.gained(0), 10);
        x.size(0, 1);
        x.run();
        Check.due("15: nothing", x.gained(0), 0);
    }

    /** g of weight and shift, and beyond what an int holds. */
    private static void gainedBeyondAnInt() {
        RatePasses x = new RatePasses(1);
        long due = 0;
        for (int block = 0; block < 18; block++) {
            x.block();
            x.weight(block, 100 - block);
            x.shift(block, 3 - block % 4);
            for (int pass = 0; pass < 24; pass++) {
                x.pass(block, 10000, 1000000);
            }
            due += 24000000L * (100 - block) * (1L << (2 * (3 - block % 4)));
        }
        x.size(0, 18 * 240000);
        x.run();
        Check.due("14: bytes", x.bytes(0), 18 * 240000);
        Check.due("15: gained", x.gained(0), due);
    }

    /** "The least size of a layer with a head of 0 with which the first n hull passes .. would be in it." */
    private static void leastIsJustEnough() {
        int[] want = {0, 2, 5, 9, 14};
        RatePasses x = fourCosts(2);
        tell(x, 0, 3, 1);
        for (int n = 0; n <= 4; n++) {
            Check.due("16: least(" + n + "), whatever the layers are", x.least(n), want[n]);
        }
        tell(x, 0, 0, 0);
        for (int n = 1; n <= 4; n++) {
            x.size(0, want[n]);
            x.run();
            Check.due("16: it is enough for " + n, x.at(n - 1, 4), 0);
            x.size(0, want[n] - 1);
            x.run();
            Check.due("16: one less is not for " + n, x.at(n - 1, 4), NONE);
        }
    }

    /** "layers one after the other": a sharing begins anew, it does not go on from the last one. */
    private static void sharedOnceMore() {
        RatePasses x = fourCosts(2);
        tell(x, 0, 14, 0);
        Check.due("8: run", x.run(), 2);
        Check.due("8: run once more", x.run(), 2);
        dueBytes(x, 14, 0);
        dueLayers(x, 0, 0, 0, 0);
        tell(x, 0, 2, 3);
        tell(x, 1, 5, 0);
        Check.due("8: run", x.run(), 1);
        dueBytes(x, 0, 5);
        dueLayers(x, 1, 1, NONE, NONE);
        Check.due("13: passes", x.passes(0, 0), 0);
        Check.due("15: gained", x.gained(0), 0);
    }
}
