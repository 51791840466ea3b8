/**
 * Passes of blocks, each with its length and what it gains, shared out to layers of given sizes:
 * only those that are worth it, the steepest first, in exact fractions.
 *
 * Every block owns a stretch of MOST_PASSES + 1 points in the point arrays: its start, which stays
 * 0, 0, and behind it one point for each pass. A point's index thus tells its block and its pass,
 * and of two points of different blocks the lesser index is that of the lesser block.
 */
public final class RatePasses {
    public static final int NONE = -1;

    private static final int MOST_LAYERS = 16;
    private static final int MOST_BLOCKS = 40;
    private static final int MOST_PASSES = 24;
    private static final int STRETCH = MOST_PASSES + 1;
    private static final int MOST_LENGTH = 10000;
    private static final int MOST_GAIN = 1000000;
    private static final int MOST_WEIGHT = 100;
    private static final int MOST_SHIFT = 3;
    private static final int MOST_BYTES = 10000000;
    private static final long MOST_ABOVE_G = 1000000000000L;
    private static final int MOST_ABOVE_L = 1000000;

    private final int layers;
    private final int[] sizes;
    private final int[] heads;

    // What the last sharing left: each layer's bytes, and the place of the row behind its last pass.
    private final int[] held;
    private final int[] ends;
    private boolean shared;

    private final int[] weights = new int[MOST_BLOCKS];
    private final int[] shifts = new int[MOST_BLOCKS];
    private final int[] counts = new int[MOST_BLOCKS];
    private int blockCount;
    private int passCount;

    // Sums up to each point, the gains without weight and shift: these do not change the hull's form.
    private final int[] lengthSums = new int[MOST_BLOCKS * STRETCH];
    private final int[] gainSums = new int[MOST_BLOCKS * STRETCH];

    // The slope of each hull pass as rise by cost, with weight and shift; a cost of 0: not on the hull.
    private final long[] rises = new long[MOST_BLOCKS * STRETCH];
    private final int[] costs = new int[MOST_BLOCKS * STRETCH];

    // The row, as points. It is right after every call, so that asking changes nothing.
    private final int[] order = new int[MOST_BLOCKS * MOST_PASSES];
    private int orderLength;

    public RatePasses(int layers) {
        this.layers = Math.max(1, Math.min(MOST_LAYERS, layers));
        sizes = new int[this.layers];
        heads = new int[this.layers];
        held = new int[this.layers];
        ends = new int[this.layers];
    }

    public int block() throws UnsupportedOperationException {
        if (blockCount >= MOST_BLOCKS) {
            throw new UnsupportedOperationException("no more blocks");
        }
        int number = blockCount;
        weights[number] = 1;
        shifts[number] = 0;
        counts[number] = 0;
        blockCount++;
        shared = false;
        return number;
    }

    public int pass(int block, int length, int gain)
            throws IndexOutOfBoundsException, IllegalArgumentException, UnsupportedOperationException {
        needBlock(block);
        needWithin(length, 1, MOST_LENGTH);
        needWithin(gain, -MOST_GAIN, MOST_GAIN);
        if (counts[block] >= MOST_PASSES) {
            throw new UnsupportedOperationException("no more passes of this block");
        }
        int number = counts[block];
        int before = startOf(block) + number;
        lengthSums[before + 1] = lengthSums[before] + length;
        gainSums[before + 1] = gainSums[before] + gain;
        counts[block]++;
        passCount++;
        renewBlock(block);
        return number;
    }

    public int weight(int block, int weight) throws IndexOutOfBoundsException, IllegalArgumentException {
        needBlock(block);
        needWithin(weight, 1, MOST_WEIGHT);
        int before = weights[block];
        weights[block] = weight;
        renewBlock(block);
        return before;
    }

    public int shift(int block, int shift) throws IndexOutOfBoundsException, IllegalArgumentException {
        needBlock(block);
        needWithin(shift, 0, MOST_SHIFT);
        int before = shifts[block];
        shifts[block] = shift;
        renewBlock(block);
        return before;
    }

    public int size(int layer, int bytes) throws IndexOutOfBoundsException, IllegalArgumentException {
        return tellLayer(sizes, layer, bytes);
    }

    public int head(int layer, int bytes) throws IndexOutOfBoundsException, IllegalArgumentException {
        return tellLayer(heads, layer, bytes);
    }

    public int run() {
        int filled = 0;
        int place = 0;
        for (int layer = 0; layer < layers; layer++) {
            held[layer] = 0;
            if (heads[layer] <= sizes[layer]) {
                place = fillLayer(layer, place);
                filled++;
            }
            ends[layer] = place;
        }
        shared = true;
        return filled;
    }

    public boolean hull(int block, int pass) throws IndexOutOfBoundsException {
        return costs[pointOf(block, pass)] > 0;
    }

    public long slope(int block, int pass, boolean top) throws IndexOutOfBoundsException {
        int point = pointOf(block, pass);
        return top ? rises[point] : costs[point];
    }

    public int row() {
        return orderLength;
    }

    public int at(int place, int what)
            throws IndexOutOfBoundsException, IllegalArgumentException, IllegalStateException {
        if (place < 0 || place >= orderLength) {
            throw new IndexOutOfBoundsException("no such place of the row");
        }
        int point = order[place];
        switch (what) {
            case 0:
                return blockOf(point);
            case 1:
                return passesUpTo(point) - 1;
            case 2:
                return costs[point];
            case 3:
                return countSameSlope(point);
            case 4:
                needShared();
                return layerOf(place);
            default:
                throw new IllegalArgumentException("no such question about a place");
        }
    }

    public int passes(int layer, int block) throws IllegalStateException, IndexOutOfBoundsException {
        needShared();
        needLayer(layer);
        needBlock(block);
        // A block's hull passes stand in the row in their own order, so its last one is met first here.
        for (int place = ends[layer] - 1; place >= 0; place--) {
            if (blockOf(order[place]) == block) {
                return passesUpTo(order[place]);
            }
        }
        return 0;
    }

    public int bytes(int layer) throws IllegalStateException, IndexOutOfBoundsException {
        needShared();
        needLayer(layer);
        return held[layer];
    }

    public long gained(int layer) throws IllegalStateException, IndexOutOfBoundsException {
        needShared();
        needLayer(layer);
        // A block's rises up to a hull pass add up to that pass's g, whatever lies between.
        long sum = 0;
        for (int place = 0; place < ends[layer]; place++) {
            sum += rises[order[place]];
        }
        return sum;
    }

    public int least(int n) throws IllegalArgumentException {
        needWithin(n, 0, orderLength);
        int sum = 0;
        for (int place = 0; place < n; place++) {
            sum += costs[order[place]];
        }
        return sum;
    }

    public int above(long g, int l) throws IllegalArgumentException {
        needWithin(l, 1, MOST_ABOVE_L);
        needWithin(g, -MOST_ABOVE_G, MOST_ABOVE_G);
        int place = 0;
        while (place < orderLength && rises[order[place]] * l >= g * costs[order[place]]) {
            place++;
        }
        return place;
    }

    public int told(int what) {
        switch (what) {
            case 0:
                return layers;
            case 1:
                return blockCount;
            case 2:
                return passCount;
            case 3:
                return shared ? 1 : 0;
            default:
                return NONE;
        }
    }

    public void clear() {
        for (int layer = 0; layer < layers; layer++) {
            sizes[layer] = 0;
            heads[layer] = 0;
        }
        blockCount = 0;
        passCount = 0;
        orderLength = 0;
        shared = false;
    }

    private void needBlock(int block) {
        if (block < 0 || block >= blockCount) {
            throw new IndexOutOfBoundsException("no such block");
        }
    }

    private void needLayer(int layer) {
        if (layer < 0 || layer >= layers) {
            throw new IndexOutOfBoundsException("no such layer");
        }
    }

    private void needShared() {
        if (!shared) {
            throw new IllegalStateException("not shared since something was told or taken away");
        }
    }

    private static void needWithin(long number, long least, long most) {
        if (number < least || number > most) {
            throw new IllegalArgumentException("a number outside its bounds");
        }
    }

    private int tellLayer(int[] numbers, int layer, int bytes) {
        needLayer(layer);
        needWithin(bytes, 0, MOST_BYTES);
        int before = numbers[layer];
        numbers[layer] = bytes;
        shared = false;
        return before;
    }

    private static int startOf(int block) {
        return block * STRETCH;
    }

    private int pointOf(int block, int pass) {
        needBlock(block);
        if (pass < 0 || pass >= counts[block]) {
            throw new IndexOutOfBoundsException("no such pass");
        }
        return startOf(block) + 1 + pass;
    }

    private static int blockOf(int point) {
        return point / STRETCH;
    }

    private static int passesUpTo(int point) {
        return point % STRETCH;
    }

    private void renewBlock(int block) {
        takeFromRow(block);
        int hullCount = makeHull(block);
        mergeIntoRow(block, hullCount);
        shared = false;
    }

    private void takeFromRow(int block) {
        int kept = 0;
        for (int place = 0; place < orderLength; place++) {
            if (blockOf(order[place]) != block) {
                order[kept] = order[place];
                kept++;
            }
        }
        orderLength = kept;
    }

    private int makeHull(int block) {
        int from = startOf(block);
        int last = from + counts[block];
        long scale = (long) weights[block] << (2 * shifts[block]);
        int next = steepestFrom(from, last);
        int hullCount = 0;
        for (int point = from + 1; point <= last; point++) {
            if (point == next) {
                costs[point] = lengthSums[point] - lengthSums[from];
                rises[point] = (gainSums[point] - gainSums[from]) * scale;
                hullCount++;
                from = point;
                next = steepestFrom(from, last);
            } else {
                costs[point] = 0;
                rises[point] = 0;
            }
        }
        return hullCount;
    }

    /** The point behind with the greatest slope above 0, of equal ones the last; from itself if none. */
    private int steepestFrom(int from, int last) {
        int best = from;
        long bestRise = 0;
        long bestCost = 1;
        for (int point = from + 1; point <= last; point++) {
            long rise = gainSums[point] - gainSums[from];
            long cost = lengthSums[point] - lengthSums[from];
            if (rise > 0 && rise * bestCost >= bestRise * cost) {
                best = point;
                bestRise = rise;
                bestCost = cost;
            }
        }
        return best;
    }

    /** Merges from the back, so that the row needs no second array. */
    private void mergeIntoRow(int block, int hullCount) {
        int start = startOf(block);
        int read = orderLength - 1;
        int write = orderLength + hullCount - 1;
        for (int point = start + counts[block]; point > start; point--) {
            if (costs[point] > 0) {
                while (read >= 0 && comesBefore(point, order[read])) {
                    order[write] = order[read];
                    read--;
                    write--;
                }
                order[write] = point;
                write--;
            }
        }
        orderLength += hullCount;
    }

    private boolean comesBefore(int point, int other) {
        int sign = compareSlopes(point, other);
        return sign > 0 || (sign == 0 && point < other);
    }

    private int compareSlopes(int point, int other) {
        return Long.compare(rises[point] * costs[other], rises[other] * costs[point]);
    }

    private int countSameSlope(int point) {
        int same = 0;
        for (int place = 0; place < orderLength; place++) {
            if (compareSlopes(point, order[place]) == 0) {
                same++;
            }
        }
        return same;
    }

    /** Fills a layer with the row's passes from a place on: the place behind the last one it takes. */
    private int fillLayer(int layer, int place) {
        int sum = heads[layer];
        int next = place;
        while (next < orderLength && sum + costs[order[next]] <= sizes[layer]) {
            sum += costs[order[next]];
            next++;
        }
        held[layer] = sum;
        return next;
    }

    private int layerOf(int place) {
        for (int layer = 0; layer < layers; layer++) {
            if (place < ends[layer]) {
                return layer;
            }
        }
        return NONE;
    }
}
