/**
 * Promises 9 to 12 and 17 at their boundaries: slopes a little below, equal to, and a little above
 * what the document names. One method for each sentence.
 */
public final class HullBoundsTest {
    public static void main(String[] args) {
        slopeFromTheStartAboveZero();
        slopeFromTheStartPastALoss();
        slopeFromThePassBeforeAboveZero();
        slopeFromAnEarlierPassAboveZero();
        aboveTheSlopeToTheNext();
        aboveTheSlopeToAFartherOne();
        slopeFromAnEarlierPassAboveThatBehind();
        slopeFromTheStartAboveThatBehind();
        lastPassHasNoneBehind();
        straightLineOfAll();
        everyPassOnTheHull();
        weightAndShiftKeepTheHull();
        greatNumbersOnTheHull();
        productsBeyondAnInt();
        slopeOffTheHullIsZero();
        slopeFromTheStartOrTheHullPassBefore();
        leastAndMostSlope();
        deepestLosses();
        greatestSlopeFirst();
        slopesAreNotRounded();
        lesserBlockFirst();
        ownPassesInTheirOrder();
        rowFollowsWeightAndShift();
        sameSlopeCounts();
        notBelow();
        notBelowZero();
        notBelowTheFlattest();
        notBelowTheSteepest();
        Check.end();
    }

    /** The passes on the hull, as a text of one 1 or 0 for each pass of block 0. */
    private static void dueHull(String name, String want, RatePasses x) {
        StringBuilder got = new StringBuilder();
        int onHull = 0;
        for (int pass = 0; pass < want.length(); pass++) {
            boolean hull = x.hull(0, pass);
            got.append(hull ? '1' : '0');
            onHull += hull ? 1 : 0;
        }
        if (!want.contentEquals(got)) {
            Check.say("9: " + name + ": the hull is " + got + ", due is " + want);
        }
        Check.due("11: " + name + ": row", x.row(), onHull);
    }

    private static void dueSlope(RatePasses x, int block, int pass, long g, long l) {
        String call = "10: slope(" + block + ", " + pass + ", ";
        Check.due(call + "true)", x.slope(block, pass, true), g);
        Check.due(call + "false)", x.slope(block, pass, false), l);
    }

    private static void dueRow(String name, RatePasses x, int... blocksAndPasses) {
        Check.due("11: " + name + ": row", x.row(), blocksAndPasses.length / 2);
        for (int place = 0; place < blocksAndPasses.length / 2; place++) {
            String call = "12: " + name + ": at(" + place + ", ";
            Check.due(call + "0)", x.at(place, 0), blocksAndPasses[2 * place]);
            Check.due(call + "1)", x.at(place, 1), blocksAndPasses[2 * place + 1]);
        }
    }

    /** "from the start .. the slopes to it are above 0", and "The START is 0, 0." */
    private static void slopeFromTheStartAboveZero() {
        dueHull("below 0", "0", Make.oneBlock(3, -1));
        dueHull("0", "0", Make.oneBlock(3, 0));
        dueHull("above 0", "1", Make.oneBlock(3, 1));
    }

    /** "from the start .. the slopes to it are above 0": a pass that gains, but not what was lost. */
    private static void slopeFromTheStartPastALoss() {
        dueHull("below 0", "00", Make.oneBlock(1, -5, 1, 4));
        dueHull("0", "00", Make.oneBlock(1, -5, 1, 5));
        dueHull("above 0", "01", Make.oneBlock(1, -5, 1, 6));
    }

    /** "from the points of all passes before it the slopes to it are above 0": the one just before. */
    private static void slopeFromThePassBeforeAboveZero() {
        dueHull("below 0", "10", Make.oneBlock(1, 5, 1, -1));
        dueHull("0", "10", Make.oneBlock(1, 5, 1, 0));
        dueHull("above 0", "11", Make.oneBlock(1, 5, 1, 1));
    }

    /** "from the points of all passes before it the slopes to it are above 0": an earlier one. */
    private static void slopeFromAnEarlierPassAboveZero() {
        dueHull("below 0", "100", Make.oneBlock(1, 9, 1, -4, 1, 3));
        dueHull("0", "100", Make.oneBlock(1, 9, 1, -4, 1, 4));
        dueHull("above 0", "101", Make.oneBlock(1, 9, 1, -4, 1, 5));
    }

    /** "and above all slopes from it to points of passes behind it": the one just behind. */
    private static void aboveTheSlopeToTheNext() {
        dueHull("5 / 3 is below 2", "11", Make.oneBlock(2, 4, 3, 5));
        dueHull("6 / 3 is 2", "01", Make.oneBlock(2, 4, 3, 6));
        dueHull("7 / 3 is above 2", "01", Make.oneBlock(2, 4, 3, 7));
    }

    /** "and above all slopes from it to points of passes behind it": one farther behind. */
    private static void aboveTheSlopeToAFartherOne() {
        dueHull("5 / 3 is below 2", "101", Make.oneBlock(1, 2, 1, -3, 2, 8));
        dueHull("6 / 3 is 2", "001", Make.oneBlock(1, 2, 1, -3, 2, 9));
        dueHull("7 / 3 is above 2", "001", Make.oneBlock(1, 2, 1, -3, 2, 10));
    }

    /** "the slopes to it .. above all slopes from it": from an earlier pass, though the last one rises. */
    private static void slopeFromAnEarlierPassAboveThatBehind() {
        dueHull("0 is below 1 / 2", "1010", Make.oneBlock(1, 10, 1, -5, 1, 6, 2, 0));
        dueHull("1 / 2 is 1 / 2", "1001", Make.oneBlock(1, 10, 1, -5, 1, 6, 2, 1));
        dueHull("2 / 2 is above 1 / 2", "1001", Make.oneBlock(1, 10, 1, -5, 1, 6, 2, 2));
    }

    /** "the slopes to it .. above all slopes from it": from the start, though the pass itself rises more. */
    private static void slopeFromTheStartAboveThatBehind() {
        dueHull("1 / 3 is below 1 / 2", "011", Make.oneBlock(1, -5, 1, 6, 3, 1));
        dueHull("2 / 4 is 1 / 2", "001", Make.oneBlock(1, -5, 1, 6, 4, 2));
        dueHull("2 / 3 is above 1 / 2", "001", Make.oneBlock(1, -5, 1, 6, 3, 2));
    }

    /** "above all slopes from it to points of passes behind it": the last pass has none, until one comes. */
    private static void lastPassHasNoneBehind() {
        RatePasses x = Make.oneBlock(1, 3);
        dueHull("alone", "1", x);
        x.pass(0, 1, 2);
        dueHull("a flatter one behind", "11", x);
        x.pass(0, 1, 2);
        dueHull("an equal one behind", "101", x);
        x.pass(0, 1, 5);
        dueHull("3 is the slope from the start and behind", "0001", x);
    }

    /** Equal slopes are not above one another: of all points on a line, the last one is on the hull. */
    private static void straightLineOfAll() {
        RatePasses x = new RatePasses(1);
        x.block();
        for (int pass = 0; pass < 24; pass++) {
            x.pass(0, 2, 3);
            Check.due("11: row", x.row(), 1);
            Check.due("12: the last pass", x.at(0, 1), pass);
            dueSlope(x, 0, pass, 3 * (pass + 1), 2 * (pass + 1));
            Check.due("9: the first pass", x.hull(0, 0), pass == 0);
        }
    }

    /** Slopes that fall by the least step: all 24 passes are on the hull, until the last rises by it. */
    private static void everyPassOnTheHull() {
        RatePasses x = new RatePasses(1);
        x.block();
        for (int pass = 0; pass < 23; pass++) {
            x.pass(0, 1, 24 - pass);
        }
        x.pass(0, 1, 1);
        dueHull("all", "111111111111111111111111", x);
        for (int pass = 0; pass < 24; pass++) {
            dueSlope(x, 0, pass, 24 - pass, 1);
        }
    }

    /** "g times the weight, times 4 as often as the shift tells": 0 stays 0, and equal slopes equal. */
    private static void weightAndShiftKeepTheHull() {
        RatePasses x = Make.oneBlock(2, 4, 3, 6, 3, 5, 1, 0);
        dueHull("at first", "0110", x);
        x.weight(0, 100);
        dueHull("with the most weight", "0110", x);
        x.shift(0, 3);
        dueHull("with the most shift", "0110", x);
        dueSlope(x, 0, 1, 64000, 5);
        dueSlope(x, 0, 2, 32000, 3);
        dueSlope(x, 0, 3, 0, 0);
    }

    /** Equal and not, by one gain among the greatest numbers that there are. */
    private static void greatNumbersOnTheHull() {
        int[] gains = {999899, 999900, 999901};
        String[] want = {"11", "01", "01"};
        for (int i = 0; i < 3; i++) {
            RatePasses x = Make.oneBlock(10000, 1000000, 9999, gains[i]);
            dueHull("a gain of " + gains[i], want[i], x);
            x.weight(0, 100);
            x.shift(0, 3);
            dueHull("a gain of " + gains[i] + " with weight and shift", want[i], x);
        }
        RatePasses y = new RatePasses(1);
        y.block();
        for (int pass = 0; pass < 23; pass++) {
            y.pass(0, 10000, 1000000);
        }
        y.pass(0, 9999, 999899);
        dueHull("a line of 23 and a flatter one", "000000000000000000000011", y);
        dueSlope(y, 0, 22, 23000000, 230000);
    }

    /** A steep pass beside a long flat one: their slopes are compared by products of all sizes. */
    private static void productsBeyondAnInt() {
        for (int length = 1; length <= 10000; length += 101) {
            dueHull("a flat one of " + length + " behind", "11", Make.oneBlock(1, 1000000, length, 1));
            dueHull("a flat one of " + length + " before", "01", Make.oneBlock(length, 1, 1, 1000000));
        }
    }

    /** "0 for one that is not on the hull": on top and below. */
    private static void slopeOffTheHullIsZero() {
        RatePasses x = Make.oneBlock(10, 100, 10, 20, 10, 90, 10, -1, 10, 0);
        dueHull("at first", "10100", x);
        dueSlope(x, 0, 1, 0, 0);
        dueSlope(x, 0, 3, 0, 0);
        dueSlope(x, 0, 4, 0, 0);
        x.pass(0, 1, 1000);
        dueHull("a steep one", "000001", x);
        for (int pass = 0; pass < 5; pass++) {
            dueSlope(x, 0, pass, 0, 0);
        }
        dueSlope(x, 0, 5, 1209, 51);
    }

    /** "A hull pass's SLOPE is that from the hull pass before it (or the start)", and so its COST. */
    private static void slopeFromTheStartOrTheHullPassBefore() {
        RatePasses x = Make.oneBlock(1, -2, 2, 12, 3, 1, 4, 7);
        dueHull("two", "0101", x);
        dueSlope(x, 0, 1, 10, 3);
        dueSlope(x, 0, 3, 8, 7);
        Check.due("12: cost from the start", x.at(0, 2), 3);
        Check.due("12: cost from the hull pass before", x.at(1, 2), 7);
    }

    /** The flattest and the steepest slope that there can be, and the greatest g. */
    private static void leastAndMostSlope() {
        RatePasses x = new RatePasses(1);
        x.block();
        for (int pass = 0; pass < 23; pass++) {
            x.pass(0, 10000, 0);
        }
        x.pass(0, 10000, 1);
        dueHull("the flattest", "000000000000000000000001", x);
        dueSlope(x, 0, 23, 1, 240000);
        RatePasses y = Make.oneBlock(1, 1000000);
        y.weight(0, 100);
        y.shift(0, 3);
        dueSlope(y, 0, 0, 6400000000L, 1);
        for (int pass = 1; pass < 24; pass++) {
            y.pass(0, 1, 1000000);
        }
        dueSlope(y, 0, 23, 153600000000L, 24);
    }

    /** The least g that there can be, and back above 0 from there. */
    private static void deepestLosses() {
        RatePasses x = new RatePasses(1);
        x.block();
        x.weight(0, 100);
        x.shift(0, 3);
        for (int pass = 0; pass < 12; pass++) {
            x.pass(0, 1, -1000000);
        }
        for (int pass = 0; pass < 11; pass++) {
            x.pass(0, 1, 1000000);
        }
        Check.due("11: row", x.row(), 0);
        x.pass(0, 1, 1000000);
        Check.due("11: all lost is won again, not more", x.row(), 0);
        RatePasses y = Make.oneBlock(1, 1);
        for (int pass = 0; pass < 23; pass++) {
            y.pass(0, 1, -1000000);
        }
        y.weight(0, 100);
        y.shift(0, 3);
        Check.due("11: row", y.row(), 1);
        dueSlope(y, 0, 0, 6400, 1);
    }

    /** "the greatest slope first": in either order of the blocks, by the least difference. */
    private static void greatestSlopeFirst() {
        for (int first = 0; first < 2; first++) {
            RatePasses x = new RatePasses(1);
            for (int block = 0; block < 2; block++) {
                x.block();
                x.pass(block, block == first ? 9999 : 10000, block == first ? 999999 : 1000000);
            }
            dueRow("999999 / 9999 is above 100", x, first, 0, 1 - first, 0);
        }
    }

    /** "in exact fractions": 5 / 2 and 7 / 3 are both 2, rounded. */
    private static void slopesAreNotRounded() {
        RatePasses x = new RatePasses(1);
        Make.block(x, 3, 7);
        Make.block(x, 2, 5);
        Make.block(x, 4, 11);
        dueRow("rounded they are all 2", x, 2, 0, 1, 0, 0, 0);
        dueHull("within a block", "11", Make.oneBlock(2, 5, 3, 7));
        dueHull("within a block", "01", Make.oneBlock(3, 7, 2, 5));
    }

    /** "of equal ones those of the lesser block first" */
    private static void lesserBlockFirst() {
        int[] gains = {7, 8, 9};
        int[] firsts = {0, 0, 1};
        for (int i = 0; i < 3; i++) {
            RatePasses x = new RatePasses(1);
            Make.block(x, 3, 6);
            Make.block(x, 4, gains[i]);
            dueRow(gains[i] + " / 4 beside 2", x, firsts[i], 0, 1 - firsts[i], 0);
        }
        RatePasses y = new RatePasses(1);
        for (int block = 0; block < 40; block++) {
            y.block();
        }
        // Told from the last block on, so that the order of telling is not that of the blocks.
        for (int block = 39; block >= 0; block--) {
            y.pass(block, block + 1, 2 * (block + 1));
        }
        for (int place = 0; place < 40; place++) {
            Check.due("12: at(" + place + ", 0)", y.at(place, 0), place);
            Check.due("12: at(" + place + ", 3)", y.at(place, 3), 40);
        }
    }

    /** A block's own hull passes fall in slope, so they stand in the row in their order. */
    private static void ownPassesInTheirOrder() {
        RatePasses x = new RatePasses(1);
        Make.block(x, 1, 9, 1, 7, 1, 5);
        Make.block(x, 1, 9, 1, 8, 1, 5, 1, 4);
        dueRow("two blocks", x, 0, 0, 1, 0, 1, 1, 0, 1, 0, 2, 1, 2, 1, 3);
    }

    /** A weight or a shift that makes slopes equal, or one above the other. */
    private static void rowFollowsWeightAndShift() {
        RatePasses x = new RatePasses(1);
        Make.block(x, 1, 3);
        Make.block(x, 1, 12);
        dueRow("3 and 12", x, 1, 0, 0, 0);
        x.weight(0, 4);
        dueRow("12 and 12", x, 0, 0, 1, 0);
        x.weight(0, 3);
        dueRow("9 and 12", x, 1, 0, 0, 0);
        x.weight(0, 5);
        dueRow("15 and 12", x, 0, 0, 1, 0);
        x.weight(0, 1);
        x.shift(0, 1);
        dueRow("3 times 4 and 12", x, 0, 0, 1, 0);
        x.shift(1, 1);
        dueRow("12 and 48", x, 1, 0, 0, 0);
        x.shift(0, 3);
        dueRow("192 and 48", x, 0, 0, 1, 0);
    }

    /** "how many have the same slope (3)": 1 with itself alone, and fractions that are equal count. */
    private static void sameSlopeCounts() {
        RatePasses x = new RatePasses(1);
        Make.block(x, 3, 6, 1, 1);
        Check.due("12: alone", x.at(0, 3), 1);
        Check.due("12: alone", x.at(1, 3), 1);
        Make.block(x, 4, 7);
        Check.due("12: one below", x.at(0, 3), 1);
        Make.block(x, 4, 9);
        Check.due("12: one above", x.at(1, 3), 1);
        Make.block(x, 4, 8);
        Check.due("12: an equal one", x.at(1, 3), 2);
        Check.due("12: an equal one", x.at(2, 3), 2);
        Check.due("12: beside them", x.at(0, 3), 1);
        Check.due("12: beside them", x.at(3, 3), 1);
        Make.block(x, 1, 2, 2, 2);
        Check.due("12: three equal ones", x.at(1, 3), 3);
        Check.due("12: three equal ones", x.at(3, 3), 3);
        Check.due("12: two others", x.at(5, 3), 2);
        Check.due("12: two others", x.at(6, 3), 2);
    }

    /** "have a slope that is not below g / l": equal ones count. */
    private static void notBelow() {
        RatePasses x = new RatePasses(1);
        Make.block(x, 3, 7, 3, 5);
        Make.block(x, 6, 14);
        int[][] want = {{7, 3, 2}, {14, 6, 2}, {700000, 300000, 2}, {8, 3, 0}, {2333334, 1000000, 0},
            {2333333, 1000000, 2}, {6, 3, 2}, {5, 3, 3}, {1666667, 1000000, 2}, {1666666, 1000000, 3}};
        for (int[] row : want) {
            Check.due("17: above(" + row[0] + ", " + row[1] + ")", x.above(row[0], row[1]), row[2]);
        }
    }

    /** Hull slopes are above 0, so none is below a fraction of 0 or less. */
    private static void notBelowZero() {
        RatePasses x = Make.oneBlock(10000, 1, 1, 0);
        Check.due("17: above(-1, 1)", x.above(-1, 1), 1);
        Check.due("17: above(-1, 1000000)", x.above(-1, 1000000), 1);
        Check.due("17: above(0, 1)", x.above(0, 1), 1);
        Check.due("17: above(0, 1000000)", x.above(0, 1000000), 1);
        Check.due("17: above(1, 1000000)", x.above(1, 1000000), 1);
        Check.due("17: above(1, 10000)", x.above(1, 10000), 1);
        Check.due("17: above(1, 9999)", x.above(1, 9999), 0);
        Check.due("17: above(1, 1)", x.above(1, 1), 0);
    }

    private static void notBelowTheFlattest() {
        RatePasses x = new RatePasses(1);
        x.block();
        for (int pass = 0; pass < 23; pass++) {
            x.pass(0, 10000, 0);
        }
        x.pass(0, 10000, 1);
        Check.due("17: above(1, 240001)", x.above(1, 240001), 1);
        Check.due("17: above(1, 240000)", x.above(1, 240000), 1);
        Check.due("17: above(1, 239999)", x.above(1, 239999), 0);
        Check.due("17: above(1, 1000000)", x.above(1, 1000000), 1);
        Check.due("17: above(5, 1000000)", x.above(5, 1000000), 0);
    }

    private static void notBelowTheSteepest() {
        RatePasses x = new RatePasses(1);
        x.block();
        x.weight(0, 100);
        x.shift(0, 3);
        for (int pass = 0; pass < 24; pass++) {
            x.pass(0, 1, 1000000);
            Check.due("17: just so", x.above(6400000000L, 1), 1);
            Check.due("17: one above", x.above(6400000001L, 1), 0);
            Check.due("17: just so", x.above(960000000000L, 150), 1);
            Check.due("17: one above", x.above(960000000001L, 150), 0);
        }
        Check.due("17: the most of both", x.above(1000000000000L, 1000000), 1);
    }
}
