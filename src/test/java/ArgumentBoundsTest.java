/**
 * Every number that a call is given, on both sides of both its bounds and far outside: one method for
 * each sentence of the document that tells bounds.
 */
public final class ArgumentBoundsTest {
    private interface Asking {
        long answer(RatePasses x, int number);
    }

    private static final Class<IndexOutOfBoundsException> INDEX = IndexOutOfBoundsException.class;
    private static final Class<IllegalArgumentException> ARGUMENT = IllegalArgumentException.class;

    public static void main(String[] args) {
        noSuchBlock();
        noSuchPass();
        noSuchLayer();
        noSuchPlace();
        lengthBounds();
        gainBounds();
        weightBounds();
        shiftBounds();
        sizeBounds();
        headBounds();
        whatOfAtBounds();
        whatOfToldBounds();
        leastBounds();
        aboveLBounds();
        aboveGBounds();
        Check.end();
    }

    /** Each number is tried on a shared object of its own, so that nothing but the number can be wrong. */
    private static void dueBounds(String name, int least, int most, Class<? extends RuntimeException> refusal,
            Asking call) {
        for (int number : new int[] {least, least + 1, least + (most - least) / 2, most - 1, most}) {
            if (number >= least && number <= most) {
                dueTaken(name, call, number);
            }
        }
        // Among these are all that come back inside if their upper bits are lost.
        for (int bit = 0; bit < 32; bit++) {
            int step = 1 << bit;
            int[] numbers = {most + step, least - step, least + step, most - step};
            for (int number : numbers) {
                dueRefused(name, least, most, refusal, call, number);
            }
        }
        dueRefused(name, least, most, refusal, call, Integer.MAX_VALUE);
        dueRefused(name, least, most, refusal, call, Integer.MIN_VALUE);
    }

    private static void dueTaken(String name, Asking call, int number) {
        RatePasses x = Make.sharedSample();
        String answer = Check.answer(() -> call.answer(x, number));
        if (answer.startsWith("throws")) {
            Check.say(name + " of " + number + " " + answer + ", due is an answer");
        }
    }

    private static void dueRefused(String name, int least, int most, Class<? extends RuntimeException> refusal,
            Asking call, int number) {
        if (number < least || number > most) {
            RatePasses x = Make.sharedSample();
            Check.dueThrow(name + " of " + number, refusal, () -> call.answer(x, number));
        }
    }

    /** "IndexOutOfBounds: there is no such block": the sample has the blocks 0 and 1. */
    private static void noSuchBlock() {
        dueBounds("3: pass, block", 0, 1, INDEX, (x, block) -> x.pass(block, 1, 1));
        dueBounds("4: weight, block", 0, 1, INDEX, (x, block) -> x.weight(block, 1));
        dueBounds("5: shift, block", 0, 1, INDEX, (x, block) -> x.shift(block, 1));
        dueBounds("9: hull, block", 0, 1, INDEX, (x, block) -> x.hull(block, 0) ? 1 : 0);
        dueBounds("10: slope, block", 0, 1, INDEX, (x, block) -> x.slope(block, 0, true));
        dueBounds("10: slope, block", 0, 1, INDEX, (x, block) -> x.slope(block, 0, false));
        dueBounds("13: passes, block", 0, 1, INDEX, (x, block) -> x.passes(0, block));
        dueBounds("13: passes of an EMPTY layer, block", 0, 1, INDEX, (x, block) -> x.passes(2, block));
    }

    /** "IndexOutOfBounds: there is no such .. pass": block 0 has three, block 1 has two. */
    private static void noSuchPass() {
        dueBounds("9: hull, pass of block 0", 0, 2, INDEX, (x, pass) -> x.hull(0, pass) ? 1 : 0);
        dueBounds("9: hull, pass of block 1", 0, 1, INDEX, (x, pass) -> x.hull(1, pass) ? 1 : 0);
        dueBounds("10: slope, pass of block 0", 0, 2, INDEX, (x, pass) -> x.slope(0, pass, true));
        dueBounds("10: slope, pass of block 0", 0, 2, INDEX, (x, pass) -> x.slope(0, pass, false));
        dueBounds("10: slope, pass of block 1", 0, 1, INDEX, (x, pass) -> x.slope(1, pass, true));
        dueBounds("10: slope, pass of block 1", 0, 1, INDEX, (x, pass) -> x.slope(1, pass, false));
    }

    /** "IndexOutOfBounds: there is no such .. layer": the sample has three, an EMPTY one is there too. */
    private static void noSuchLayer() {
        dueBounds("6: size, layer", 0, 2, INDEX, (x, layer) -> x.size(layer, 1));
        dueBounds("7: head, layer", 0, 2, INDEX, (x, layer) -> x.head(layer, 1));
        dueBounds("13: passes, layer", 0, 2, INDEX, (x, layer) -> x.passes(layer, 0));
        dueBounds("14: bytes, layer", 0, 2, INDEX, (x, layer) -> x.bytes(layer));
        dueBounds("15: gained, layer", 0, 2, INDEX, (x, layer) -> x.gained(layer));
    }

    /** "IndexOutOfBounds: there is no such .. place of the row": the sample's row has three. */
    private static void noSuchPlace() {
        for (int number = 0; number <= 4; number++) {
            int what = number;
            dueBounds("12: at with what " + what + ", place", 0, 2, INDEX, (x, place) -> x.at(place, what));
        }
    }

    /** "a LENGTH 1 .. 10000" */
    private static void lengthBounds() {
        dueBounds("3: length", 1, 10000, ARGUMENT, (x, length) -> x.pass(0, length, 1));
        for (int length : new int[] {1, 10000}) {
            Check.due("3: a length of " + length, Make.oneBlock(length, 1).slope(0, 0, false), length);
        }
    }

    /** "a GAIN -1000000 .. 1000000" */
    private static void gainBounds() {
        dueBounds("3: gain", -1000000, 1000000, ARGUMENT, (x, gain) -> x.pass(0, 1, gain));
        Check.due("3: the most gain", Make.oneBlock(1, 1000000).slope(0, 0, true), 1000000);
        RatePasses x = Make.oneBlock(1, -1000000, 1, 1000000);
        Check.due("3: the least gain takes all of the most", x.hull(0, 1), false);
        RatePasses y = Make.oneBlock(1, -999999, 1, 1000000);
        Check.due("3: one more than the least gain does not", y.hull(0, 1), true);
        Check.due("3: and leaves 1", y.slope(0, 1, true), 1);
    }

    /** "a WEIGHT 1 .. 100, at first 1" */
    private static void weightBounds() {
        dueBounds("4: weight", 1, 100, ARGUMENT, (x, weight) -> x.weight(0, weight));
        RatePasses x = Make.oneBlock(1, 7);
        Check.due("4: g at first", x.slope(0, 0, true), 7);
        Check.due("4: the weight at first", x.weight(0, 100), 1);
        Check.due("4: g with the most weight", x.slope(0, 0, true), 700);
        Check.due("4: the most weight", x.weight(0, 1), 100);
        Check.due("4: g with the least weight", x.slope(0, 0, true), 7);
        Check.due("4: the least weight", x.weight(0, 2), 1);
    }

    /** "a SHIFT 0 .. 3, at first 0", and "times 4 as often as the shift tells" */
    private static void shiftBounds() {
        dueBounds("5: shift", 0, 3, ARGUMENT, (x, shift) -> x.shift(0, shift));
        RatePasses x = Make.oneBlock(1, 7);
        Check.due("5: the shift at first", x.shift(0, 3), 0);
        Check.due("5: g with the most shift", x.slope(0, 0, true), 7 * 64);
        Check.due("5: the most shift", x.shift(0, 1), 3);
        Check.due("5: g with a shift of 1", x.slope(0, 0, true), 7 * 4);
        Check.due("5: a shift of 1", x.shift(0, 0), 1);
        Check.due("5: g with the least shift", x.slope(0, 0, true), 7);
        Check.due("5: the least shift", x.shift(0, 2), 0);
        Check.due("5: g with a shift of 2", x.slope(0, 0, true), 7 * 16);
    }

    /** "A layer has a SIZE, at first 0, .. 0 .. 10000000" */
    private static void sizeBounds() {
        dueBounds("6: size", 0, 10000000, ARGUMENT, (x, bytes) -> x.size(0, bytes));
        RatePasses x = new RatePasses(16);
        for (int layer = 0; layer < 16; layer++) {
            Check.due("6: the size at first", x.size(layer, 10000000), 0);
            Check.due("6: the most size", x.size(layer, 0), 10000000);
            Check.due("6: the least size", x.size(layer, layer), 0);
        }
        for (int layer = 0; layer < 16; layer++) {
            Check.due("6: each layer has its own", x.size(layer, 0), layer);
            Check.due("7: and it is no head", x.head(layer, 0), 0);
        }
    }

    /** "and a HEAD, at first 0, both 0 .. 10000000" */
    private static void headBounds() {
        dueBounds("7: head", 0, 10000000, ARGUMENT, (x, bytes) -> x.head(0, bytes));
        RatePasses x = new RatePasses(16);
        for (int layer = 0; layer < 16; layer++) {
            Check.due("7: the head at first", x.head(layer, 10000000), 0);
            Check.due("7: the most head", x.head(layer, 0), 10000000);
            Check.due("7: the least head", x.head(layer, layer), 0);
        }
        for (int layer = 0; layer < 16; layer++) {
            Check.due("7: each layer has its own", x.head(layer, 0), layer);
            Check.due("6: and it is no size", x.size(layer, 0), 0);
        }
    }

    /** "its block (what = 0), pass (1), cost (2), how many have the same slope (3), its layer (4 ..)" */
    private static void whatOfAtBounds() {
        dueBounds("12: what", 0, 4, ARGUMENT, (x, what) -> x.at(1, what));
        RatePasses x = Make.sharedSample();
        int[][] want = {{0, 0, 10, 1, 0}, {1, 0, 5, 1, 1}, {0, 2, 20, 1, RatePasses.NONE}};
        for (int place = 0; place < 3; place++) {
            for (int what = 0; what <= 4; what++) {
                Check.due("12: at(" + place + ", " + what + ")", x.at(place, what), want[place][what]);
            }
        }
    }

    /** "whether it is shared, 1 or 0 (3); NONE for another what": no number is refused. */
    private static void whatOfToldBounds() {
        RatePasses x = Make.sharedSample();
        int[] want = {3, 2, 5, 1};
        for (int what = 0; what < 4; what++) {
            Check.due("18: told(" + what + ")", x.told(what), want[what]);
        }
        for (int bit = 0; bit < 32; bit++) {
            int step = 1 << bit;
            for (int what : new int[] {3 + step, -step}) {
                Check.due("18: told(" + what + ")", x.told(what), RatePasses.NONE);
            }
        }
        Check.due("18: told of the most", x.told(Integer.MAX_VALUE), RatePasses.NONE);
    }

    /** "IllegalArgument: there are not so many, or n is below 0." */
    private static void leastBounds() {
        dueBounds("16: n", 0, 3, ARGUMENT, (x, n) -> x.least(n));
        RatePasses x = Make.sample();
        Check.due("16: of none", x.least(0), 0);
        Check.due("16: of all but one", x.least(2), 15);
        Check.due("16: of all, those left out too", x.least(3), 35);
    }

    /** "IllegalArgument: l is not 1 .. 1000000" */
    private static void aboveLBounds() {
        dueBounds("17: l", 1, 1000000, ARGUMENT, (x, l) -> x.above(1, l));
        dueBounds("17: l with a g of 0", 1, 1000000, ARGUMENT, (x, l) -> x.above(0, l));
        RatePasses x = Make.sample();
        Check.due("17: the least l", x.above(8, 1), 2);
        Check.due("17: the least l", x.above(9, 1), 1);
        Check.due("17: the most l", x.above(8000000, 1000000), 2);
        Check.due("17: the most l", x.above(8000001, 1000000), 1);
    }

    /** "or g not -1000000000000 .. 1000000000000" */
    private static void aboveGBounds() {
        long most = 1000000000000L;
        RatePasses x = Make.sample();
        for (long g : new long[] {-most, -most + 1}) {
            Check.due("17: above(" + g + ", 1)", x.above(g, 1), 3);
            Check.due("17: above(" + g + ", 1000000)", x.above(g, 1000000), 3);
        }
        for (long g : new long[] {most - 1, most}) {
            Check.due("17: above(" + g + ", 1)", x.above(g, 1), 0);
            Check.due("17: above(" + g + ", 1000000)", x.above(g, 1000000), 0);
        }
        // Cut to an int this is 0, and so is 2 to the 32nd.
        Check.due("17: above(1L << 39, 1)", x.above(1L << 39, 1), 0);
        Check.due("17: above(1L << 32, 1)", x.above(1L << 32, 1), 0);
        for (int bit = 0; bit < 64; bit++) {
            long step = 1L << bit;
            for (long g : new long[] {most + step, -most - step}) {
                if (g < -most || g > most) {
                    Check.dueArgument("17: above(" + g + ", 1)", () -> x.above(g, 1));
                }
            }
        }
        Check.dueArgument("17: above of the most long", () -> x.above(Long.MAX_VALUE, 1));
        Check.dueArgument("17: above of the least long", () -> x.above(Long.MIN_VALUE, 1));
    }
}
