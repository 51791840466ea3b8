import java.util.ArrayList;
import java.util.List;
import java.util.function.Supplier;

/**
 * The last paragraph of the document's terms: which exception is due when, the first one of several,
 * that a call that throws changes nothing, and how long an object stays shared.
 */
public final class RefusalTest {
    private interface Asking {
        long answer(RatePasses x);
    }

    private record Refused(String name, Class<? extends RuntimeException> due, Asking call) {
    }

    private static final Class<IndexOutOfBoundsException> INDEX = IndexOutOfBoundsException.class;
    private static final Class<IllegalArgumentException> ARGUMENT = IllegalArgumentException.class;
    private static final Class<IllegalStateException> STATE = IllegalStateException.class;
    private static final Class<UnsupportedOperationException> UNSUPPORTED = UnsupportedOperationException.class;

    public static void main(String[] args) {
        refusedCallsChangeNothing();
        refusedCallsOfANewObject();
        refusedCallsOfAFullObject();
        refusedCallsOfAClearedObject();
        firstOfSeveralInPass();
        firstOfSeveralInTelling();
        firstOfSeveralInAt();
        firstOfSeveralInAskingALayer();
        neverShared();
        toldAnewIsNotShared();
        toldAsBeforeIsNotShared();
        takenAwayIsNotShared();
        askingKeepsItShared();
        refusedTellingKeepsItShared();
        stateForTheLayerAlone();
        sharedAgain();
        Check.end();
    }

    private static void due(Supplier<RatePasses> maker, Refused refused) {
        RatePasses x = maker.get();
        Check.dueThrow(refused.name, refused.due, () -> refused.call.answer(x));
        // An object made likewise that never saw the refused call must answer the same ever after.
        RatePasses calm = maker.get();
        String got = picture(x);
        String want = picture(calm);
        if (!got.equals(want)) {
            Check.say(refused.name + " changed something: " + got + ", due is " + want);
        }
    }

    private static void due(Supplier<RatePasses> maker, List<Refused> all) {
        for (Refused refused : all) {
            due(maker, refused);
        }
    }

    /** All that an object answers, then once more when shared, then what only telling anew can ask. */
    private static String picture(RatePasses x) {
        StringBuilder text = new StringBuilder();
        addAnswers(text, x);
        add(text, x::run);
        addAnswers(text, x);
        for (int number = 0; number < x.told(0); number++) {
            int layer = number;
            add(text, () -> x.size(layer, 1));
            add(text, () -> x.head(layer, 1));
        }
        for (int number = 0; number < x.told(1); number++) {
            int block = number;
            add(text, () -> x.weight(block, 1));
            add(text, () -> x.shift(block, 0));
        }
        add(text, () -> x.pass(0, 1, 1));
        add(text, x::block);
        return text.toString();
    }

    private static void addAnswers(StringBuilder text, RatePasses x) {
        for (int number = 0; number <= 3; number++) {
            int what = number;
            add(text, () -> x.told(what));
        }
        int row = x.row();
        for (int number = 0; number < row; number++) {
            int place = number;
            for (int asked = 0; asked <= 4; asked++) {
                int what = asked;
                add(text, () -> x.at(place, what));
            }
        }
        int blocks = x.told(1);
        for (int block = 0; block < blocks; block++) {
            addHull(text, x, block);
        }
        int layers = x.told(0);
        for (int number = 0; number < layers; number++) {
            int layer = number;
            add(text, () -> x.bytes(layer));
            add(text, () -> x.gained(layer));
            for (int asked = 0; asked < blocks; asked++) {
                int block = asked;
                add(text, () -> x.passes(layer, block));
            }
        }
    }

    private static void addHull(StringBuilder text, RatePasses x, int block) {
        boolean there = true;
        for (int number = 0; there; number++) {
            int pass = number;
            String top = Check.answer(() -> x.slope(block, pass, true));
            there = !top.startsWith("throws");
            text.append(top).append(' ');
            if (there) {
                add(text, () -> x.slope(block, pass, false));
            }
        }
    }

    private static void add(StringBuilder text, Check.Call call) {
        text.append(Check.answer(call)).append(' ');
    }

    /** All that the sample refuses, shared or not: it has 3 layers, 2 blocks and a row of 3. */
    private static List<Refused> refusedBySample() {
        List<Refused> all = new ArrayList<>();
        all.addAll(refusedTelling());
        all.addAll(refusedAsking());
        return all;
    }

    private static List<Refused> refusedTelling() {
        return List.of(
            new Refused("3: pass(2, 1, 1)", INDEX, x -> x.pass(2, 1, 1)),
            new Refused("3: pass(-1, 1, 1)", INDEX, x -> x.pass(-1, 1, 1)),
            new Refused("3: pass(0, 0, 1)", ARGUMENT, x -> x.pass(0, 0, 1)),
            new Refused("3: pass(0, 10001, 1)", ARGUMENT, x -> x.pass(0, 10001, 1)),
            new Refused("3: pass(0, 1, -1000001)", ARGUMENT, x -> x.pass(0, 1, -1000001)),
            new Refused("3: pass(0, 1, 1000001)", ARGUMENT, x -> x.pass(0, 1, 1000001)),
            new Refused("4: weight(2, 5)", INDEX, x -> x.weight(2, 5)),
            new Refused("4: weight(-1, 5)", INDEX, x -> x.weight(-1, 5)),
            new Refused("4: weight(0, 0)", ARGUMENT, x -> x.weight(0, 0)),
            new Refused("4: weight(0, 101)", ARGUMENT, x -> x.weight(0, 101)),
            new Refused("5: shift(2, 1)", INDEX, x -> x.shift(2, 1)),
            new Refused("5: shift(-1, 1)", INDEX, x -> x.shift(-1, 1)),
            new Refused("5: shift(0, -1)", ARGUMENT, x -> x.shift(0, -1)),
            new Refused("5: shift(0, 4)", ARGUMENT, x -> x.shift(0, 4)),
            new Refused("6: size(3, 5)", INDEX, x -> x.size(3, 5)),
            new Refused("6: size(-1, 5)", INDEX, x -> x.size(-1, 5)),
            new Refused("6: size(0, -1)", ARGUMENT, x -> x.size(0, -1)),
            new Refused("6: size(0, 10000001)", ARGUMENT, x -> x.size(0, 10000001)),
            new Refused("7: head(3, 5)", INDEX, x -> x.head(3, 5)),
            new Refused("7: head(-1, 5)", INDEX, x -> x.head(-1, 5)),
            new Refused("7: head(0, -1)", ARGUMENT, x -> x.head(0, -1)),
            new Refused("7: head(0, 10000001)", ARGUMENT, x -> x.head(0, 10000001)));
    }

    private static List<Refused> refusedAsking() {
        return List.of(
            new Refused("9: hull(2, 0)", INDEX, x -> x.hull(2, 0) ? 1 : 0),
            new Refused("9: hull(0, 3)", INDEX, x -> x.hull(0, 3) ? 1 : 0),
            new Refused("9: hull(1, -1)", INDEX, x -> x.hull(1, -1) ? 1 : 0),
            new Refused("10: slope(2, 0, true)", INDEX, x -> x.slope(2, 0, true)),
            new Refused("10: slope(1, 2, false)", INDEX, x -> x.slope(1, 2, false)),
            new Refused("12: at(3, 0)", INDEX, x -> x.at(3, 0)),
            new Refused("12: at(-1, 0)", INDEX, x -> x.at(-1, 0)),
            new Refused("12: at(0, 5)", ARGUMENT, x -> x.at(0, 5)),
            new Refused("12: at(0, -1)", ARGUMENT, x -> x.at(0, -1)),
            new Refused("16: least(4)", ARGUMENT, x -> x.least(4)),
            new Refused("16: least(-1)", ARGUMENT, x -> x.least(-1)),
            new Refused("17: above(1, 0)", ARGUMENT, x -> x.above(1, 0)),
            new Refused("17: above(1, 1000001)", ARGUMENT, x -> x.above(1, 1000001)),
            new Refused("17: above(1000000000001, 1)", ARGUMENT, x -> x.above(1000000000001L, 1)),
            new Refused("17: above(-1000000000001, 1)", ARGUMENT, x -> x.above(-1000000000001L, 1)));
    }

    /** What every object refuses that is not shared, whatever the numbers are. */
    private static List<Refused> refusedUnshared() {
        return List.of(
            new Refused("13: passes(0, 0), not shared", STATE, x -> x.passes(0, 0)),
            new Refused("14: bytes(0), not shared", STATE, x -> x.bytes(0)),
            new Refused("15: gained(0), not shared", STATE, x -> x.gained(0)));
    }

    /** "A call that throws changes nothing." */
    private static void refusedCallsChangeNothing() {
        due(Make::sample, refusedBySample());
        due(Make::sample, refusedUnshared());
        due(Make::sample, new Refused("12: at(0, 4), not shared", STATE, x -> x.at(0, 4)));
        due(Make::sharedSample, refusedBySample());
        due(Make::sharedSample, List.of(
            new Refused("13: passes(3, 0)", INDEX, x -> x.passes(3, 0)),
            new Refused("13: passes(-1, 0)", INDEX, x -> x.passes(-1, 0)),
            new Refused("13: passes(0, 2)", INDEX, x -> x.passes(0, 2)),
            new Refused("13: passes(0, -1)", INDEX, x -> x.passes(0, -1)),
            new Refused("14: bytes(3)", INDEX, x -> x.bytes(3)),
            new Refused("14: bytes(-1)", INDEX, x -> x.bytes(-1)),
            new Refused("15: gained(3)", INDEX, x -> x.gained(3)),
            new Refused("15: gained(-1)", INDEX, x -> x.gained(-1))));
    }

    /** What a call of an object without blocks can refuse. */
    private static List<Refused> refusedWithoutBlocks() {
        return List.of(
            new Refused("3: pass(0, 1, 1)", INDEX, x -> x.pass(0, 1, 1)),
            new Refused("4: weight(0, 1)", INDEX, x -> x.weight(0, 1)),
            new Refused("5: shift(0, 1)", INDEX, x -> x.shift(0, 1)),
            new Refused("9: hull(0, 0)", INDEX, x -> x.hull(0, 0) ? 1 : 0),
            new Refused("10: slope(0, 0, true)", INDEX, x -> x.slope(0, 0, true)),
            new Refused("12: at(0, 0)", INDEX, x -> x.at(0, 0)),
            new Refused("12: at(0, 4)", INDEX, x -> x.at(0, 4)),
            new Refused("16: least(1)", ARGUMENT, x -> x.least(1)));
    }

    private static void refusedCallsOfANewObject() {
        due(() -> new RatePasses(2), refusedWithoutBlocks());
        due(() -> new RatePasses(2), refusedUnshared());
    }

    private static void refusedCallsOfAClearedObject() {
        Supplier<RatePasses> cleared = () -> {
            RatePasses x = Make.sharedSample();
            x.clear();
            return x;
        };
        due(cleared, refusedWithoutBlocks());
        due(cleared, refusedUnshared());
    }

    /** 40 blocks, the last of them with 24 passes in a line; shared. */
    private static RatePasses full() {
        RatePasses x = new RatePasses(1);
        for (int block = 0; block < 40; block++) {
            x.block();
        }
        for (int pass = 0; pass < 24; pass++) {
            x.pass(39, 1, 1);
        }
        x.size(0, 24);
        x.run();
        return x;
    }

    /** "UnsupportedOperation: there would be more than there may be." */
    private static void refusedCallsOfAFullObject() {
        due(RefusalTest::full, List.of(
            new Refused("2: the 41st block", UNSUPPORTED, RatePasses::block),
            new Refused("3: the 25th pass", UNSUPPORTED, x -> x.pass(39, 1, 1)),
            new Refused("3: the 25th pass, a steep one", UNSUPPORTED, x -> x.pass(39, 1, 1000000)),
            new Refused("3: the 25th pass, a loss", UNSUPPORTED, x -> x.pass(39, 10000, -1000000))));
    }

    /** "Of several that a call names, the first one.": IndexOutOfBounds, IllegalArgument, UnsupportedOperation. */
    private static void firstOfSeveralInPass() {
        due(RefusalTest::full, List.of(
            new Refused("3: block and length", INDEX, x -> x.pass(40, 0, 1)),
            new Refused("3: block and gain", INDEX, x -> x.pass(-1, 1, 1000001)),
            new Refused("3: block, length and gain", INDEX, x -> x.pass(40, 10001, -1000001)),
            new Refused("3: length and gain", ARGUMENT, x -> x.pass(0, 0, 1000001)),
            new Refused("3: length and too many", ARGUMENT, x -> x.pass(39, 0, 1)),
            new Refused("3: length and too many", ARGUMENT, x -> x.pass(39, 10001, 1)),
            new Refused("3: gain and too many", ARGUMENT, x -> x.pass(39, 1, 1000001)),
            new Refused("3: gain and too many", ARGUMENT, x -> x.pass(39, 1, -1000001)),
            new Refused("3: too many alone", UNSUPPORTED, x -> x.pass(39, 1, 1))));
    }

    /** "Of several that a call names, the first one.": IndexOutOfBounds, IllegalArgument. */
    private static void firstOfSeveralInTelling() {
        due(Make::sharedSample, List.of(
            new Refused("4: block and weight", INDEX, x -> x.weight(2, 0)),
            new Refused("4: block and weight", INDEX, x -> x.weight(-1, 101)),
            new Refused("5: block and shift", INDEX, x -> x.shift(2, 4)),
            new Refused("5: block and shift", INDEX, x -> x.shift(-1, -1)),
            new Refused("6: layer and size", INDEX, x -> x.size(3, -1)),
            new Refused("6: layer and size", INDEX, x -> x.size(-1, 10000001)),
            new Refused("7: layer and head", INDEX, x -> x.head(3, -1)),
            new Refused("7: layer and head", INDEX, x -> x.head(-1, 10000001)),
            new Refused("9: block and pass", INDEX, x -> x.hull(2, -1) ? 1 : 0),
            new Refused("10: block and pass", INDEX, x -> x.slope(-1, 3, true)),
            new Refused("17: g and l", ARGUMENT, x -> x.above(1000000000001L, 0))));
    }

    /** "Of several that a call names, the first one.": IndexOutOfBounds, IllegalArgument, IllegalState. */
    private static void firstOfSeveralInAt() {
        due(Make::sample, List.of(
            new Refused("12: place, not shared", INDEX, x -> x.at(3, 4)),
            new Refused("12: place, not shared", INDEX, x -> x.at(-1, 4)),
            new Refused("12: place and what, not shared", INDEX, x -> x.at(3, 5)),
            new Refused("12: place and what, not shared", INDEX, x -> x.at(-1, -1)),
            new Refused("12: what, not shared", ARGUMENT, x -> x.at(0, 5)),
            new Refused("12: what, not shared", ARGUMENT, x -> x.at(2, -1)),
            new Refused("12: not shared alone", STATE, x -> x.at(2, 4))));
        due(Make::sharedSample, List.of(
            new Refused("12: place and what", INDEX, x -> x.at(3, 5)),
            new Refused("12: place", INDEX, x -> x.at(3, 4)),
            new Refused("12: what", ARGUMENT, x -> x.at(2, 5))));
    }

    /** "Of several that a call names, the first one.": IllegalState, IndexOutOfBounds. */
    private static void firstOfSeveralInAskingALayer() {
        List<Asking> calls = List.of(x -> x.passes(3, 0), x -> x.passes(-1, 0), x -> x.passes(0, 2),
            x -> x.passes(0, -1), x -> x.passes(3, 2), x -> x.bytes(3), x -> x.bytes(-1),
            x -> x.gained(3), x -> x.gained(-1));
        for (int i = 0; i < calls.size(); i++) {
            due(Make::sample, new Refused("13 to 15: not shared, call " + i, STATE, calls.get(i)));
            due(Make::sharedSample, new Refused("13 to 15: shared, call " + i, INDEX, calls.get(i)));
            due(() -> new RatePasses(3), new Refused("13 to 15: new, call " + i, STATE, calls.get(i)));
        }
    }

    private static void dueShared(String name, RatePasses x, boolean want) {
        Check.due("18: shared, " + name, x.told(3), want ? 1 : 0);
        dueState("13: passes, " + name, want, () -> x.passes(0, 0));
        dueState("14: bytes, " + name, want, () -> x.bytes(0));
        dueState("15: gained, " + name, want, () -> x.gained(0));
        dueState("12: layer, " + name, want, () -> x.at(0, 4));
    }

    private static void dueState(String name, boolean shared, Check.Call call) {
        boolean refused = Check.answer(call).equals("throws.IllegalStateException");
        Check.due(name + ", refused", refused, !shared);
    }

    /** "IllegalState: it was not shared": a new object was not, and no asking shares it. */
    private static void neverShared() {
        RatePasses x = new RatePasses(1);
        Check.due("18: a new object", x.told(3), 0);
        Check.dueState("14: a new object", () -> x.bytes(0));
        Check.dueState("15: a new object", () -> x.gained(0));
        Check.dueState("13: a new object", () -> x.passes(0, 0));
        x.run();
        Check.due("18: shared with nothing told", x.told(3), 1);
        Check.due("14: shared with nothing told", x.bytes(0), 0);
        Check.due("15: shared with nothing told", x.gained(0), 0);
        Check.dueIndex("13: shared with nothing told", () -> x.passes(0, 0));
        RatePasses y = Make.sample();
        y.row();
        y.at(0, 3);
        y.least(3);
        y.above(1, 1);
        y.hull(0, 0);
        y.slope(0, 0, true);
        dueShared("asking does not share", y, false);
    }

    private static void dueUnsharedBy(String name, Asking call) {
        RatePasses x = Make.sharedSample();
        dueShared("before " + name, x, true);
        call.answer(x);
        dueShared("after " + name, x, false);
        x.run();
        dueShared("after " + name + " and run", x, true);
    }

    /** "it was not shared since something was told" */
    private static void toldAnewIsNotShared() {
        dueUnsharedBy("block", RatePasses::block);
        dueUnsharedBy("pass", x -> x.pass(0, 1, 1000));
        dueUnsharedBy("a pass off the hull", x -> x.pass(0, 1, -1));
        dueUnsharedBy("weight", x -> x.weight(0, 2));
        dueUnsharedBy("shift", x -> x.shift(0, 1));
        dueUnsharedBy("size", x -> x.size(0, 11));
        dueUnsharedBy("size of an EMPTY layer", x -> x.size(2, 99));
        dueUnsharedBy("head", x -> x.head(1, 1));
        dueUnsharedBy("head of the last layer", x -> x.head(2, 102));
    }

    /** "(also such as it was before)" */
    private static void toldAsBeforeIsNotShared() {
        dueUnsharedBy("weight as before", x -> x.weight(1, 1));
        dueUnsharedBy("shift as before", x -> x.shift(1, 0));
        dueUnsharedBy("size as before", x -> x.size(0, 10));
        dueUnsharedBy("head as before", x -> x.head(0, 0));
        RatePasses x = Make.sharedSample();
        int block = x.block();
        x.run();
        dueShared("a block without passes", x, true);
        x.weight(block, 1);
        dueShared("its weight as before", x, false);
        x.run();
        x.shift(block, 0);
        dueShared("its shift as before", x, false);
    }

    /** "or taken away" */
    private static void takenAwayIsNotShared() {
        RatePasses x = Make.sharedSample();
        x.clear();
        Check.due("18: after clear", x.told(3), 0);
        Check.dueState("14: after clear", () -> x.bytes(0));
        Check.dueState("15: after clear", () -> x.gained(0));
        Check.dueState("13: after clear", () -> x.passes(0, 0));
        x.run();
        Check.due("18: shared", x.told(3), 1);
        x.clear();
        Check.due("18: after a clear of nothing", x.told(3), 0);
        Check.dueState("14: after a clear of nothing", () -> x.bytes(0));
    }

    private static void askingKeepsItShared() {
        RatePasses x = Make.sharedSample();
        x.row();
        x.hull(0, 1);
        x.slope(0, 1, true);
        x.least(0);
        x.above(0, 1);
        x.told(2);
        for (int what = 0; what <= 4; what++) {
            x.at(1, what);
        }
        dueShared("after all that can be asked", x, true);
        x.run();
        dueShared("after run once more", x, true);
    }

    /** "A call that throws changes nothing.": also not that it is shared. */
    private static void refusedTellingKeepsItShared() {
        RatePasses x = Make.sharedSample();
        for (Refused refused : refusedBySample()) {
            Check.dueThrow(refused.name, refused.due, () -> refused.call.answer(x));
            Check.due("18: shared after " + refused.name, x.told(3), 1);
        }
        RatePasses y = full();
        Check.dueUnsupported("2: the 41st block", y::block);
        Check.dueUnsupported("3: the 25th pass", () -> y.pass(39, 1, 1));
        Check.due("18: shared after too many", y.told(3), 1);
        Check.due("14: bytes after too many", y.bytes(0), 24);
    }

    /** "IllegalState for its layer alone." */
    private static void stateForTheLayerAlone() {
        RatePasses x = Make.sample();
        int[][] want = {{0, 0, 10, 1}, {1, 0, 5, 1}, {0, 2, 20, 1}};
        for (int number = 0; number < 3; number++) {
            int place = number;
            for (int what = 0; what < 4; what++) {
                Check.due("12: at(" + place + ", " + what + "), not shared", x.at(place, what), want[place][what]);
            }
            Check.dueState("12: at(" + place + ", 4), not shared", () -> x.at(place, 4));
        }
        Check.due("9: not shared", x.hull(0, 2), true);
        Check.due("10: not shared", x.slope(0, 2, true), 110);
        Check.due("11: not shared", x.row(), 3);
        Check.due("16: not shared", x.least(3), 35);
        Check.due("17: not shared", x.above(8, 1), 2);
    }

    /** What was told since the last sharing is in the next one. */
    private static void sharedAgain() {
        RatePasses x = Make.sharedSample();
        x.weight(1, 2);
        Check.due("12: the row is new at once", x.at(0, 0), 1);
        x.run();
        // The cost of 5 comes first now, and layer 0 has no room for 10 beside it.
        Check.due("12: layer", x.at(0, 4), 0);
        Check.due("12: layer", x.at(1, 4), RatePasses.NONE);
        Check.due("14: bytes", x.bytes(0), 5);
        Check.due("14: bytes", x.bytes(1), 2);
        Check.due("15: gained", x.gained(2), 80);
        x.pass(0, 1, 10000);
        x.run();
        Check.due("12: block", x.at(0, 0), 0);
        Check.due("12: cost", x.at(0, 2), 31);
        Check.due("14: bytes", x.bytes(0), 0);
    }
}
