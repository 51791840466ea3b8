/** What several tests make their objects with. */
final class Make {
    private Make() {
    }

    /** A new block with these passes, each a length and a gain: the block's number. */
    static int block(RatePasses x, int... lengthsAndGains) {
        int block = x.block();
        for (int i = 0; i < lengthsAndGains.length; i += 2) {
            x.pass(block, lengthsAndGains[i], lengthsAndGains[i + 1]);
        }
        return block;
    }

    /** An object of one layer with one block of these passes. */
    static RatePasses oneBlock(int... lengthsAndGains) {
        RatePasses x = new RatePasses(1);
        block(x, lengthsAndGains);
        return x;
    }

    /**
     * Three layers, of which the last is EMPTY; two blocks of three and two passes; a row of three:
     * pass 0 of block 0 (slope 10, layer 0), pass 0 of block 1 (8, layer 1), pass 2 of block 0 (11 / 2,
     * left out). It is not shared.
     */
    static RatePasses sample() {
        RatePasses x = new RatePasses(3);
        block(x, 10, 100, 10, 20, 10, 90);
        block(x, 5, 40, 5, -1);
        x.size(0, 10);
        x.size(1, 7);
        x.head(1, 2);
        x.size(2, 100);
        x.head(2, 101);
        return x;
    }

    static RatePasses sharedSample() {
        RatePasses x = sample();
        x.run();
        return x;
    }
}
