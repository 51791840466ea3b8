import java.math.BigInteger;
import java.util.ArrayList;
import java.util.List;

/**
 * Runs of 512 calls, made by a fixed rule, on an object and on a slow model that follows the document
 * word by word: every answer and every exception must be the model's. A run ends with asking all that
 * can be asked, as far as its calls go. No object sees a 513th call: what that answers is free.
 */
public final class ModelTest {
    private static final int RUNS = 1500;
    private static final int CALLS = 512;

    public static void main(String[] args) {
        for (int run = 0; run < RUNS && Check.wrongs() == 0; run++) {
            new Runner(run).go();
        }
        Check.end();
    }

    private static final class Runner {
        private final int run;
        private final RatePasses x;
        private final Model model;
        private long seed;
        private final boolean full;
        private int left = CALLS;

        Runner(int run) {
            this.run = run;
            seed = run * 7919L + 17;
            // Some runs do little but build, to come to many blocks and a long row.
            full = run % 8 == 0;
            int layers = within(-1, 18);
            x = new RatePasses(layers);
            model = new Model(layers);
        }

        void go() {
            int keptForAsking = within(0, CALLS * (full ? 1 : 3) / 4);
            while (left > keptForAsking) {
                step();
            }
            askAll();
        }

        private int within(int least, int most) {
            seed = seed * 6364136223846793005L + 1442695040888963407L;
            return least + (int) ((seed >>> 33) % (most - least + 1));
        }

        /** Mostly numbers that are there; now and then one just outside, or far outside. */
        private int number(int count) {
            int dice = within(0, 39);
            if (dice == 0) {
                return -1;
            }
            if (dice == 1) {
                return count;
            }
            if (dice == 2) {
                return within(0, 1) == 0 ? Integer.MAX_VALUE : Integer.MIN_VALUE;
            }
            return count == 0 ? 0 : within(0, count - 1);
        }

        /** Small numbers make equal slopes, great ones try the arithmetic. */
        private int length() {
            if (within(0, 60) == 0) {
                return within(0, 1) * 10001;
            }
            return run % 3 == 0 ? within(9990, 10000) : within(1, 4);
        }

        private int gain() {
            if (within(0, 60) == 0) {
                return within(0, 1) * 2000002 - 1000001;
            }
            if (run % 3 == 0) {
                return within(0, 9) == 0 ? -within(0, 1000000) : within(999900, 1000000);
            }
            return within(-4, run % 3 == 1 ? 8 : 20);
        }

        private int bytes() {
            int dice = within(0, 30);
            if (dice == 0) {
                return -1;
            }
            if (dice == 1) {
                return within(10000000, 10000001);
            }
            return run % 3 == 0 ? within(0, 400000) : within(0, 30);
        }

        private void step() {
            int dice = within(0, 99);
            boolean building = left > CALLS * (full ? 1 : 2) / 3;
            if (dice < (building ? full ? 18 : 12 : 2)) {
                compare("block()", x::block, model::block);
            } else if (dice < (building ? full ? 95 : 70 : 20)) {
                int b = number(Math.min(model.blocks.size(), 1 + run % 40));
                int l = length();
                int g = gain();
                compare("pass(" + b + ", " + l + ", " + g + ")", () -> x.pass(b, l, g), () -> model.pass(b, l, g));
            } else if (dice < (building && full ? 97 : 75)) {
                change();
            } else if (within(0, 149) == 0 && !full) {
                compare("clear()", () -> cleared(x::clear), () -> cleared(model::clear));
            } else {
                ask();
            }
        }

        private long cleared(Runnable clear) {
            clear.run();
            return 0;
        }

        private void change() {
            int b = number(model.blocks.size());
            int layer = number(model.layers);
            int v = bytes();
            switch (within(0, 5)) {
                case 0:
                    int w = within(0, 20) == 0 ? within(0, 1) * 101 : within(1, run % 2 == 0 ? 3 : 100);
                    compare("weight(" + b + ", " + w + ")", () -> x.weight(b, w), () -> model.weight(b, w));
                    break;
                case 1:
                    int s = within(0, 20) == 0 ? within(0, 1) * 5 - 1 : within(0, 3);
                    compare("shift(" + b + ", " + s + ")", () -> x.shift(b, s), () -> model.shift(b, s));
                    break;
                case 2:
                    compare("head(" + layer + ", " + v + ")", () -> x.head(layer, v), () -> model.head(layer, v));
                    break;
                case 3:
                    compare("run()", x::run, model::run);
                    break;
                default:
                    compare("size(" + layer + ", " + v + ")", () -> x.size(layer, v), () -> model.size(layer, v));
            }
        }

        private void ask() {
            int b = number(model.blocks.size());
            int p = number(b < 0 || b >= model.blocks.size() ? 1 : model.blocks.get(b).lengths.size());
            int layer = number(model.layers);
            int place = number(model.row().size());
            int what = within(-1, 5);
            switch (within(0, 9)) {
                case 0:
                    compare("run()", x::run, model::run);
                    break;
                case 1:
                    compareHull(b, p);
                    break;
                case 2:
                    compare("row()", x::row, () -> model.row().size());
                    break;
                case 3:
                    compare("at(" + place + ", " + what + ")", () -> x.at(place, what), () -> model.at(place, what));
                    break;
                case 4:
                    compare("passes(" + layer + ", " + b + ")", () -> x.passes(layer, b), () -> model.passes(layer, b));
                    break;
                case 5:
                    compare("bytes(" + layer + ")", () -> x.bytes(layer), () -> model.bytes(layer));
                    break;
                case 6:
                    compare("gained(" + layer + ")", () -> x.gained(layer), () -> model.gained(layer));
                    break;
                case 7:
                    compare("least(" + place + ")", () -> x.least(place), () -> model.least(place));
                    break;
                case 8:
                    compareAbove(place);
                    break;
                default:
                    compare("told(" + what + ")", () -> x.told(what), () -> model.told(what));
            }
        }

        /** The bound lies on a slope of the row, or a little beside it. */
        private void compareAbove(int place) {
            List<Entry> row = model.row();
            boolean there = place >= 0 && place < row.size();
            if (there) {
                Entry e = row.get(place);
                int bound = within(1, 1000000);
                long beside = e.g * bound / e.l + within(0, 1);
                compare("above(" + beside + ", " + bound + ")",
                    () -> x.above(beside, bound), () -> model.above(beside, bound));
            }
            long far = within(0, 9) == 0 ? 1000000000000L * within(-1, 1) : 0;
            long g = (there ? row.get(place).g : within(-5, 5)) + within(-1, 1) + far;
            int l = (there ? (int) row.get(place).l : within(-1, 5)) + within(0, 20) / 20;
            compare("above(" + g + ", " + l + ")", () -> x.above(g, l), () -> model.above(g, l));
        }

        private void compareHull(int b, int p) {
            String at = "(" + b + ", " + p;
            compare("hull" + at + ")", () -> x.hull(b, p) ? 1 : 0, () -> model.hull(b, p) ? 1 : 0);
            compare("slope" + at + ", true)", () -> x.slope(b, p, true), () -> model.slope(b, p, true));
            compare("slope" + at + ", false)", () -> x.slope(b, p, false), () -> model.slope(b, p, false));
        }

        /** Runs take turns in what they ask first, as the calls that are left may not do for all. */
        private void askAll() {
            if (run % 4 != 0) {
                compare("run()", x::run, model::run);
            }
            for (int turn = 0; turn < 3; turn++) {
                switch ((run + turn) % 3) {
                    case 0:
                        askHulls();
                        break;
                    case 1:
                        askRow();
                        break;
                    default:
                        askLayers();
                }
            }
        }

        private void askHulls() {
            for (int b = 0; b < model.blocks.size(); b++) {
                for (int p = 0; p < model.blocks.get(b).lengths.size(); p++) {
                    compareHull(b, p);
                }
            }
        }

        private void askRow() {
            List<Entry> row = model.row();
            compare("row()", x::row, row::size);
            for (int place = 0; place < row.size(); place++) {
                int at = place;
                for (int w = 0; w <= 4; w++) {
                    int what = w;
                    compare("at(" + at + ", " + what + ")", () -> x.at(at, what), () -> model.at(at, what));
                }
            }
        }

        private void askLayers() {
            for (int number = -1; number <= 4; number++) {
                int what = number;
                compare("told(" + what + ")", () -> x.told(what), () -> model.told(what));
            }
            for (int number = 0; number < model.layers; number++) {
                int layer = number;
                compare("bytes(" + layer + ")", () -> x.bytes(layer), () -> model.bytes(layer));
                compare("gained(" + layer + ")", () -> x.gained(layer), () -> model.gained(layer));
                for (int k = 0; k < model.blocks.size(); k++) {
                    int b = k;
                    compare("passes(" + layer + ", " + b + ")", () -> x.passes(layer, b), () -> model.passes(layer, b));
                }
            }
        }

        private void compare(String call, Check.Call got, Check.Call want) {
            if (left == 0) {
                return;
            }
            left--;
            String one = Check.answer(got);
            String other = Check.answer(want);
            if (!one.equals(other)) {
                Check.say("run " + run + ": " + call + " answered " + one + ", due is " + other);
            }
        }
    }

    private static final class Block {
        final List<Integer> lengths = new ArrayList<>();
        final List<Integer> gains = new ArrayList<>();
        int weight = 1;
        int shift = 0;

        long l(int points) {
            long sum = 0;
            for (int i = 0; i < points; i++) {
                sum += lengths.get(i);
            }
            return sum;
        }

        long g(int points) {
            long sum = 0;
            for (int i = 0; i < points; i++) {
                sum += gains.get(i);
            }
            sum *= weight;
            for (int i = 0; i < shift; i++) {
                sum *= 4;
            }
            return sum;
        }

        /** A point's number is that of its pass and 1; the start is 0. */
        boolean onHull(int point) {
            for (int before = 0; before < point; before++) {
                long g = g(point) - g(before);
                long l = l(point) - l(before);
                if (g <= 0) {
                    return false;
                }
                for (int behind = point + 1; behind <= lengths.size(); behind++) {
                    if (slopes(g, l, g(behind) - g(point), l(behind) - l(point)) <= 0) {
                        return false;
                    }
                }
            }
            return true;
        }
    }

    private static int slopes(long g, long l, long otherG, long otherL) {
        BigInteger left = BigInteger.valueOf(g).multiply(BigInteger.valueOf(otherL));
        BigInteger right = BigInteger.valueOf(otherG).multiply(BigInteger.valueOf(l));
        return left.compareTo(right);
    }

    private record Entry(int block, int pass, long g, long l) {
    }

    private static final class Model {
        final int layers;
        final List<Block> blocks = new ArrayList<>();
        private final int[] size;
        private final int[] head;
        private final int[] had;
        private List<Integer> layerOfPlace = new ArrayList<>();
        private boolean shared = false;
        private List<Entry> keptRow = null;

        Model(int layers) {
            this.layers = layers < 1 ? 1 : layers > 16 ? 16 : layers;
            size = new int[this.layers];
            head = new int[this.layers];
            had = new int[this.layers];
        }

        private void changed() {
            shared = false;
            keptRow = null;
        }

        private void index(int number, int count) {
            if (number < 0 || number >= count) {
                throw new IndexOutOfBoundsException();
            }
        }

        private void argument(boolean right) {
            if (!right) {
                throw new IllegalArgumentException();
            }
        }

        private void state() {
            if (!shared) {
                throw new IllegalStateException();
            }
        }

        int block() {
            if (blocks.size() == 40) {
                throw new UnsupportedOperationException();
            }
            changed();
            blocks.add(new Block());
            return blocks.size() - 1;
        }

        int pass(int block, int length, int gain) {
            index(block, blocks.size());
            argument(length >= 1 && length <= 10000 && gain >= -1000000 && gain <= 1000000);
            Block b = blocks.get(block);
            if (b.lengths.size() == 24) {
                throw new UnsupportedOperationException();
            }
            changed();
            b.lengths.add(length);
            b.gains.add(gain);
            return b.lengths.size() - 1;
        }

        int weight(int block, int weight) {
            index(block, blocks.size());
            argument(weight >= 1 && weight <= 100);
            changed();
            int before = blocks.get(block).weight;
            blocks.get(block).weight = weight;
            return before;
        }

        int shift(int block, int shift) {
            index(block, blocks.size());
            argument(shift >= 0 && shift <= 3);
            changed();
            int before = blocks.get(block).shift;
            blocks.get(block).shift = shift;
            return before;
        }

        int size(int layer, int bytes) {
            index(layer, layers);
            argument(bytes >= 0 && bytes <= 10000000);
            changed();
            int before = size[layer];
            size[layer] = bytes;
            return before;
        }

        int head(int layer, int bytes) {
            index(layer, layers);
            argument(bytes >= 0 && bytes <= 10000000);
            changed();
            int before = head[layer];
            head[layer] = bytes;
            return before;
        }

        int run() {
            List<Entry> row = row();
            layerOfPlace = new ArrayList<>();
            int open = 0;
            for (int layer = 0; layer < layers; layer++) {
                had[layer] = 0;
                if (head[layer] > size[layer]) {
                    continue;
                }
                open++;
                long sum = head[layer];
                while (layerOfPlace.size() < row.size() && sum + row.get(layerOfPlace.size()).l <= size[layer]) {
                    sum += row.get(layerOfPlace.size()).l;
                    layerOfPlace.add(layer);
                }
                had[layer] = (int) sum;
            }
            while (layerOfPlace.size() < row.size()) {
                layerOfPlace.add(-1);
            }
            shared = true;
            return open;
        }

        private Entry entry(int block, int pass) {
            index(block, blocks.size());
            Block b = blocks.get(block);
            index(pass, b.lengths.size());
            if (!b.onHull(pass + 1)) {
                return null;
            }
            int before = pass;
            while (before > 0 && !b.onHull(before)) {
                before--;
            }
            return new Entry(block, pass, b.g(pass + 1) - b.g(before), b.l(pass + 1) - b.l(before));
        }

        boolean hull(int block, int pass) {
            return entry(block, pass) != null;
        }

        long slope(int block, int pass, boolean top) {
            Entry e = entry(block, pass);
            return e == null ? 0 : top ? e.g : e.l;
        }

        List<Entry> row() {
            if (keptRow == null) {
                keptRow = new ArrayList<>();
                for (int b = 0; b < blocks.size(); b++) {
                    for (int p = 0; p < blocks.get(b).lengths.size(); p++) {
                        Entry e = entry(b, p);
                        if (e != null) {
                            keptRow.add(e);
                        }
                    }
                }
                // The sort is stable: of equal slopes those of the lesser block stay first.
                keptRow.sort((one, other) -> slopes(other.g, other.l, one.g, one.l));
            }
            return keptRow;
        }

        int at(int place, int what) {
            index(place, row().size());
            argument(what >= 0 && what <= 4);
            Entry e = row().get(place);
            if (what == 4) {
                state();
                return layerOfPlace.get(place);
            }
            if (what == 3) {
                int same = 0;
                for (Entry other : row()) {
                    same += slopes(e.g, e.l, other.g, other.l) == 0 ? 1 : 0;
                }
                return same;
            }
            return what == 0 ? e.block : what == 1 ? e.pass : (int) e.l;
        }

        int passes(int layer, int block) {
            state();
            index(layer, layers);
            index(block, blocks.size());
            int most = 0;
            for (int place = 0; place < row().size(); place++) {
                int in = layerOfPlace.get(place);
                if (row().get(place).block == block && in >= 0 && in <= layer) {
                    most = Math.max(most, row().get(place).pass + 1);
                }
            }
            return most;
        }

        int bytes(int layer) {
            state();
            index(layer, layers);
            return had[layer];
        }

        long gained(int layer) {
            state();
            index(layer, layers);
            long sum = 0;
            for (int b = 0; b < blocks.size(); b++) {
                sum += blocks.get(b).g(passes(layer, b));
            }
            return sum;
        }

        int least(int n) {
            argument(n >= 0 && n <= row().size());
            int sum = 0;
            for (int place = 0; place < n; place++) {
                sum += row().get(place).l;
            }
            return sum;
        }

        int above(long g, int l) {
            argument(l >= 1 && l <= 1000000 && g >= -1000000000000L && g <= 1000000000000L);
            int count = 0;
            for (Entry e : row()) {
                count += slopes(e.g, e.l, g, l) >= 0 ? 1 : 0;
            }
            return count;
        }

        int told(int what) {
            int all = 0;
            for (Block b : blocks) {
                all += b.lengths.size();
            }
            return what == 0 ? layers : what == 1 ? blocks.size() : what == 2 ? all : what == 3 ? shared ? 1 : 0 : -1;
        }

        void clear() {
            changed();
            blocks.clear();
            for (int layer = 0; layer < layers; layer++) {
                size[layer] = 0;
                head[layer] = 0;
            }
        }
    }
}
