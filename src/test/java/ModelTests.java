import java.util.ArrayDeque;
import java.util.ArrayList;
import java.util.Collections;
import java.util.Comparator;
import java.util.Deque;
import java.util.List;
import java.util.Random;
import java.util.regex.Pattern;

/**
 * Long runs of mixed calls against a model that is written from the document word by word, with
 * item objects, lists and recursion, so that it shares no thought with the class itself.
 */
public final class ModelTests extends Tests {
    private static final int RUNS = 1500;
    /** Each step is one call and a checksum(); an object is used for at most 512 calls. */
    private static final int STEPS = 256;

    public static void main(String[] args) {
        int differ = 0;
        for (int seed = 0; seed < RUNS && differ < 5; seed++) {
            place = "seed " + seed;
            if (!sameRun(seed)) {
                differ++;
            }
        }
        finish("the class and the model agree");
    }

    private static boolean sameRun(int seed) {
        Random random = new Random(seed);
        TwoEndQueues real = new TwoEndQueues();
        Model model = new Model();
        StringBuilder told = new StringBuilder();
        Deque<Integer> typing = new ArrayDeque<>();
        for (int step = 0; step < STEPS; step++) {
            int[] a = nextCall(random, model, typing, seed);
            String got = outcome(() -> onReal(real, a));
            String want = outcome(() -> onModel(model, a));
            long gotSum = real.checksum();
            long wantSum = model.checksum();
            told.append(a[0]).append('(').append(a[1]).append(',').append(a[2]).append(',').append(a[3]).append(") ");
            if (!got.equals(want) || gotSum != wantSum) {
                tellWrong("step " + step + ": " + got + ", due is " + want
                    + "; checksum " + gotSum + ", due is " + wantSum + "; calls " + told);
                return false;
            }
        }
        return true;
    }

    private static String outcome(Call call) {
        try {
            return Long.toString(call.answer());
        } catch (IllegalArgumentException | IllegalStateException | IndexOutOfBoundsException e) {
            return e.getClass().getName();
        }
    }

    private static int[] nextCall(Random random, Model model, Deque<Integer> typing, int seed) {
        if (!typing.isEmpty()) {
            return new int[] {28, typing.poll(), 0, 0};
        }
        int spread = seed % 3 == 0 ? 2 : seed % 3 == 1 ? 20 : 1000;
        int key = random.nextInt(40) == 0 ? wild(random) : random.nextInt(2 * spread + 1) - spread;
        int handle = random.nextInt(40) == 0 ? wild(random) : random.nextInt(32) - 1;
        int position = random.nextInt(40) == 0 ? wild(random) : random.nextInt(model.size() + 2) - 1;
        int other = random.nextInt(model.size() + 1);
        int small = random.nextInt(40) == 0 ? wild(random) : random.nextInt(7) - 1;
        switch (random.nextInt(60)) {
            case 0: case 1: case 2: case 3: case 4: case 5: case 6: case 7: case 8: case 9: return new int[] {1, key, 0, 0};
            case 10: case 11: return new int[] {2, 0, 0, 0};
            case 12: case 13: return new int[] {3, 0, 0, 0};
            case 14: case 15: case 16: return new int[] {4, handle, 0, 0};
            case 17: case 18: case 19: case 20: return new int[] {5, handle, key, 0};
            case 21: return new int[] {6, 0, 0, 0};
            case 22: return random.nextInt(8) == 0 ? new int[] {7, 0, 0, 0} : new int[] {8, 0, 0, 0};
            case 23: return new int[] {9, 0, 0, 0};
            case 24: return new int[] {10, handle, 0, 0};
            case 25: return new int[] {11, random.nextInt(14) - 1, random.nextInt(20) == 0 ? wild(random) : random.nextInt() >>> 1, 0};
            case 26: return new int[] {12, small, 0, 0};
            case 27: return new int[] {13, small, 0, 0};
            case 28: return new int[] {14, position, 0, 0};
            case 29: return new int[] {15, handle, 0, 0};
            case 30: return new int[] {16, key, random.nextInt(2 * spread + 1) - spread, 0};
            case 31: return new int[] {17, small, position, 0};
            case 32: return new int[] {18, small, handle, 0};
            case 33: return new int[] {19, small, 0, 0};
            case 34: case 35: case 36: return new int[] {20, small, position, other};
            case 37: return new int[] {21, random.nextInt(3) == 0 ? wild(random) : random.nextInt(1000003) - 1, 0, 0};
            case 38: case 39: return new int[] {22, handle, 0, 0};
            case 40: return new int[] {23, small, 0, 0};
            case 41: return new int[] {24, 0, 0, 0};
            case 42: case 43: case 44: case 45: return new int[] {25, random.nextInt(3), small, random.nextBoolean() ? key : handle};
            case 46: return new int[] {25, small, random.nextInt(5), key};
            case 47: case 48: return new int[] {26, small, 0, 0};
            case 49: return new int[] {27, 0, 0, 0};
            case 50: return new int[] {28, random.nextInt(3) == 0 ? wild(random) : random.nextInt(100) + 30, 0, 0};
            case 51: return new int[] {29, 0, 0, 0};
            case 52: case 53: return new int[] {30, 0, 0, 0};
            case 54: case 55: case 56: return new int[] {31, 0, 0, 0};
            case 57: case 58: return new int[] {32, 0, 0, 0};
            default: return startTyping(random, typing);
        }
    }

    private static int[] startTyping(Random random, Deque<Integer> typing) {
        String signs = "iilgrrccb0123456789-,;;;";
        String[] commands = {"i", "i-", "l;", "g;", "r", "c", "b;"};
        int pieces = random.nextInt(9);
        for (int i = 0; i < pieces; i++) {
            String piece = commands[random.nextInt(commands.length)];
            if (piece.startsWith("i")) {
                piece += random.nextInt(1000) + ";";
            } else if (piece.equals("r")) {
                piece += random.nextInt(35) + ";";
            } else if (piece.equals("c")) {
                piece += random.nextInt(35) + "," + (random.nextInt(1999) - 999) + ";";
            }
            if (random.nextInt(12) == 0) {
                piece = String.valueOf(signs.charAt(random.nextInt(signs.length())));
            }
            piece.chars().forEach(typing::add);
        }
        return new int[] {29, 0, 0, 0};
    }

    private static int wild(Random random) {
        int[] edges = {
            Integer.MIN_VALUE, Integer.MAX_VALUE, -1, 0, 1, 29, 30, 31, 32, 33, 999, 1000, -999, -1000, 126, 127, 1000000, 1000001,
        };
        return random.nextInt(4) == 0 ? random.nextInt() : edges[random.nextInt(edges.length)];
    }

    private static long onReal(TwoEndQueues q, int[] a) {
        switch (a[0]) {
            case 1: return q.insert(a[1]);
            case 2: return q.takeLeast();
            case 3: return q.takeGreatest();
            case 4: return q.remove(a[1]);
            case 5: return q.change(a[1], a[2]);
            case 6: return q.build();
            case 7: return q.clear();
            case 8: return q.size();
            case 9: return q.handles();
            case 10: return q.key(a[1]);
            case 11: return q.fill(a[1], a[2]);
            case 12: return q.least(a[1]);
            case 13: return q.greatest(a[1]);
            case 14: return q.ranked(a[1]);
            case 15: return q.rank(a[1]);
            case 16: return q.between(a[1], a[2]);
            case 17: return q.at(a[1], a[2]);
            case 18: return q.where(a[1], a[2]);
            case 19: return q.violations(a[1]);
            case 20: return q.disturb(a[1], a[2], a[3]);
            case 21: return q.level(a[1]);
            case 22: return q.ancestors(a[1]);
            case 23: return q.comparisons(a[1]);
            case 24: return q.forget();
            case 25: return q.wouldNeed(a[1], a[2], a[3]);
            case 26: return q.sortingNeeds(a[1]);
            case 27: return q.fewest();
            case 28: return q.type(a[1]);
            case 29: return q.clearText();
            case 30: return q.fault();
            case 31: return q.run();
            default: return q.undo();
        }
    }

    private static long onModel(Model m, int[] a) {
        switch (a[0]) {
            case 1: return m.insert(a[1]);
            case 2: return m.takeLeast();
            case 3: return m.takeGreatest();
            case 4: return m.remove(a[1]);
            case 5: return m.change(a[1], a[2]);
            case 6: return m.build();
            case 7: return m.clear();
            case 8: return m.size();
            case 9: return m.handles();
            case 10: return m.key(a[1]);
            case 11: return m.fill(a[1], a[2]);
            case 12: return m.least(a[1]);
            case 13: return m.greatest(a[1]);
            case 14: return m.ranked(a[1]);
            case 15: return m.rank(a[1]);
            case 16: return m.between(a[1], a[2]);
            case 17: return m.at(a[1], a[2]);
            case 18: return m.where(a[1], a[2]);
            case 19: return m.violations(a[1]);
            case 20: return m.disturb(a[1], a[2], a[3]);
            case 21: return m.level(a[1]);
            case 22: return m.ancestors(a[1]);
            case 23: return m.comparisons(a[1]);
            case 24: return m.forget();
            case 25: return m.wouldNeed(a[1], a[2], a[3]);
            case 26: return m.sortingNeeds(a[1]);
            case 27: return m.fewest();
            case 28: return m.type(a[1]);
            case 29: return m.clearText();
            case 30: return m.fault();
            case 31: return m.run();
            default: return m.undo();
        }
    }

    private static final class Item {
        final int key;
        final int handle;

        Item(int key, int handle) {
            this.key = key;
            this.handle = handle;
        }

        static final Comparator<Item> ORDER = Comparator.<Item>comparingInt(i -> i.key).thenComparingInt(i -> i.handle);

        boolean lessThan(Item other) {
            return ORDER.compare(this, other) < 0;
        }
    }

    /** Items, layouts and counts: what a record holds. */
    private static final class World {
        final Item[] items = new Item[30];
        final List<List<Item>> rows = new ArrayList<>();
        final int[] counts = new int[3];

        World() {
            for (int i = 0; i < 4; i++) {
                rows.add(new ArrayList<>());
            }
        }

        World copy() {
            World copy = new World();
            System.arraycopy(items, 0, copy.items, 0, 30);
            System.arraycopy(counts, 0, copy.counts, 0, 3);
            for (int i = 0; i < 4; i++) {
                copy.rows.get(i).addAll(rows.get(i));
            }
            return copy;
        }

        int n(int layout) {
            return rows.get(layout).size();
        }

        Item get(int layout, int position) {
            return rows.get(layout).get(position);
        }

        void swap(int layout, int one, int other) {
            Collections.swap(rows.get(layout), one, other);
        }

        int position(int layout, int handle) {
            for (int i = 0; i < n(layout); i++) {
                if (get(layout, i).handle == handle) {
                    return i;
                }
            }
            throw new AssertionError("no position");
        }

        boolean compare(int layout, int one, int other) {
            counts[Math.min(layout, 2)]++;
            return get(layout, one).lessThan(get(layout, other));
        }

        // queue 0

        boolean hasHigh(int k) {
            return 2 * k + 1 < n(0);
        }

        int topOf(int k) {
            return hasHigh(k) ? 2 * k + 1 : 2 * k;
        }

        List<Integer> childNodes(int k) {
            List<Integer> children = new ArrayList<>();
            for (int c = 2 * k + 1; c <= 2 * k + 2; c++) {
                if (2 * c < n(0)) {
                    children.add(c);
                }
            }
            return children;
        }

        void order(int k) {
            if (hasHigh(k) && compare(0, 2 * k + 1, 2 * k)) {
                swap(0, 2 * k + 1, 2 * k);
            }
        }

        void riseLow(int k) {
            if (k > 0) {
                int p = Math.floorDiv(k - 1, 2);
                if (compare(0, 2 * k, 2 * p)) {
                    swap(0, 2 * k, 2 * p);
                    riseLow(p);
                }
            }
        }

        void riseHigh(int k, int i) {
            if (k > 0) {
                int p = Math.floorDiv(k - 1, 2);
                if (compare(0, 2 * p + 1, i)) {
                    swap(0, 2 * p + 1, i);
                    riseHigh(p, 2 * p + 1);
                }
            }
        }

        void sinkLow(int k) {
            order(k);
            List<Integer> children = childNodes(k);
            if (children.isEmpty()) {
                return;
            }
            int c = children.get(0);
            if (children.size() == 2 && compare(0, 2 * children.get(1), 2 * children.get(0))) {
                c = children.get(1);
            }
            if (compare(0, 2 * c, 2 * k)) {
                swap(0, 2 * c, 2 * k);
                sinkLow(c);
            }
        }

        void sinkHigh(int k) {
            order(k);
            List<Integer> children = childNodes(k);
            if (children.isEmpty()) {
                return;
            }
            int c = children.get(0);
            if (children.size() == 2 && compare(0, topOf(children.get(0)), topOf(children.get(1)))) {
                c = children.get(1);
            }
            if (compare(0, topOf(k), topOf(c))) {
                swap(0, topOf(k), topOf(c));
                sinkHigh(c);
            }
        }

        void fiveSteps(int k) {
            order(k);
            riseLow(k);
            riseHigh(k, topOf(k));
            sinkLow(k);
            sinkHigh(k);
        }

        void enterInterval(int n) {
            int k = n / 2;
            if (n == 0) {
                return;
            }
            if (n % 2 == 1) {
                if (compare(0, n, 2 * k)) {
                    swap(0, n, 2 * k);
                    riseLow(k);
                } else {
                    riseHigh(k, n);
                }
            } else {
                if (compare(0, n, 2 * ((k - 1) / 2))) {
                    riseLow(k);
                } else {
                    riseHigh(k, n);
                }
            }
        }

        // queue 1

        static int depth(int i) {
            return i == 0 ? 0 : 1 + depth((i - 1) / 2);
        }

        static boolean lowLevel(int i) {
            return depth(i) % 2 == 0;
        }

        boolean compareBy(boolean low, int one, int other) {
            return low ? compare(1, one, other) : compare(1, other, one);
        }

        void rise(int i) {
            if (i == 0 || (i - 1) / 2 == 0) {
                return;
            }
            int g = ((i - 1) / 2 - 1) / 2;
            if (compareBy(lowLevel(i), i, g)) {
                swap(1, i, g);
                rise(g);
            }
        }

        void sink(int i) {
            List<Integer> below = new ArrayList<>();
            for (int j = i + 1; j < n(1); j++) {
                boolean child = (j - 1) / 2 == i;
                boolean grandchild = (j - 1) / 2 > 0 && ((j - 1) / 2 - 1) / 2 == i;
                if (child || grandchild) {
                    below.add(j);
                }
            }
            if (below.isEmpty()) {
                return;
            }
            int b = below.get(0);
            for (int c : below.subList(1, below.size())) {
                if (compareBy(lowLevel(i), c, b)) {
                    b = c;
                }
            }
            if (!compareBy(lowLevel(i), b, i)) {
                return;
            }
            swap(1, b, i);
            int p = (b - 1) / 2;
            if (p == i) {
                return;
            }
            if (compareBy(lowLevel(i), p, b)) {
                swap(1, p, b);
            }
            sink(b);
        }

        void enterLevels(int i) {
            if (i == 0) {
                return;
            }
            int p = (i - 1) / 2;
            if (compareBy(lowLevel(i), p, i)) {
                swap(1, p, i);
                rise(p);
            } else {
                rise(i);
            }
        }

        int greatestOfLevels() {
            if (n(1) < 3) {
                return n(1) - 1;
            }
            return get(1, 1).lessThan(get(1, 2)) ? 2 : 1;
        }

        // queue 2

        boolean isAhead(int layout, int a, int b) {
            return layout == 2 ? compare(2, a, b) : compare(3, b, a);
        }

        void up(int layout, int i) {
            if (i > 0 && isAhead(layout, i, (i - 1) / 2)) {
                swap(layout, i, (i - 1) / 2);
                up(layout, (i - 1) / 2);
            }
        }

        void down(int layout, int i) {
            if (2 * i + 1 >= n(layout)) {
                return;
            }
            int c = 2 * i + 1;
            if (2 * i + 2 < n(layout) && isAhead(layout, 2 * i + 2, 2 * i + 1)) {
                c = 2 * i + 2;
            }
            if (isAhead(layout, c, i)) {
                swap(layout, c, i);
                down(layout, c);
            }
        }

        // all queues

        int putIn(int key) {
            int handle = 0;
            while (items[handle] != null) {
                handle++;
            }
            items[handle] = new Item(key, handle);
            for (int layout = 0; layout < 4; layout++) {
                rows.get(layout).add(items[handle]);
            }
            enterInterval(n(0) - 1);
            enterLevels(n(1) - 1);
            up(2, n(2) - 1);
            up(3, n(3) - 1);
            return handle;
        }

        void afterChange(int layout, int i) {
            if (layout == 0) {
                fiveSteps(i / 2);
            } else if (layout == 1) {
                enterLevels(i);
                sink(i);
            } else {
                up(layout, i);
                down(layout, i);
            }
        }

        void takeFrom(int layout, int handle) {
            int i = position(layout, handle);
            int last = n(layout) - 1;
            rows.get(layout).set(i, get(layout, last));
            rows.get(layout).remove(last);
            if (i != last) {
                afterChange(layout, i);
            }
        }

        void takeOut(int handle) {
            for (int layout = 0; layout < 4; layout++) {
                takeFrom(layout, handle);
            }
            items[handle] = null;
        }

        void rekey(int handle, int key) {
            items[handle] = new Item(key, handle);
            for (int layout = 0; layout < 4; layout++) {
                int i = position(layout, handle);
                rows.get(layout).set(i, items[handle]);
                afterChange(layout, i);
            }
        }

        void buildAll() {
            for (int layout = 0; layout < 4; layout++) {
                rows.get(layout).sort(Comparator.comparingInt(item -> item.handle));
            }
            for (int k = 14; k >= 0; k--) {
                if (2 * k < n(0)) {
                    sinkLow(k);
                    sinkHigh(k);
                }
            }
            for (int i = n(1) - 1; i >= 0; i--) {
                sink(i);
            }
            for (int layout = 2; layout < 4; layout++) {
                for (int i = n(layout) - 1; i >= 0; i--) {
                    down(layout, i);
                }
            }
        }

        int leastHandle(int queue) {
            return n(0) == 0 ? -1 : get(queue, 0).handle;
        }

        int greatestHandle(int queue) {
            if (n(0) == 0) {
                return -1;
            }
            return queue == 0 ? get(0, topOf(0)).handle : queue == 1 ? get(1, greatestOfLevels()).handle : get(3, 0).handle;
        }

        void takeGreatestOut() {
            if (n(1) >= 3) {
                counts[1]++;
            }
            takeOut(greatestHandle(0));
        }

        boolean liesBelow(int j, int i) {
            while (j > i) {
                j = (j - 1) / 2;
            }
            return j == i;
        }

        int broken(int layout) {
            int count = 0;
            for (int one = 0; one < n(layout); one++) {
                for (int other = 0; other < n(layout); other++) {
                    if (one != other && breaks(layout, one, other)) {
                        count++;
                    }
                }
            }
            return count;
        }

        /** Whether a rule asks for "the item at other is not less than that at one", and it is less. */
        boolean breaks(int layout, int one, int other) {
            if (!get(layout, other).lessThan(get(layout, one))) {
                return false;
            }
            switch (layout) {
                case 0:
                    boolean sameNode = one / 2 == other / 2 && one % 2 == 0;
                    boolean lows = one % 2 == 0 && other % 2 == 0 && other > 0 && (other / 2 - 1) / 2 == one / 2;
                    boolean highs = one > 1 && one == topOf(one / 2) && other == 2 * ((one / 2 - 1) / 2) + 1;
                    return sameNode || lows || highs;
                case 1:
                    return other > one && liesBelow(other, one) && lowLevel(one)
                        || one > other && liesBelow(one, other) && !lowLevel(other);
                case 2:
                    return other > 0 && (other - 1) / 2 == one;
                default:
                    return one > 0 && (one - 1) / 2 == other;
            }
        }
    }

    private static final class Model {
        private static final Pattern SCRIPT =
            Pattern.compile("((i-?[0-9]{1,3}|l|g|r[0-9]{1,2}|c[0-9]{1,2},-?[0-9]{1,3}|b);)*");
        private static final String[] ENDINGS = {"", ";", "0;", ",0;", "0,0;"};

        private World world = new World();
        private final Deque<World> records = new ArrayDeque<>();
        private String text = "";

        private void record() {
            records.addLast(world.copy());
            if (records.size() > 5) {
                records.removeFirst();
            }
        }

        private static void argument(boolean fine) {
            if (!fine) {
                throw new IllegalArgumentException();
            }
        }

        private static void state(boolean fine) {
            if (!fine) {
                throw new IllegalStateException();
            }
        }

        private static void index(boolean fine) {
            if (!fine) {
                throw new IndexOutOfBoundsException();
            }
        }

        private static boolean isKey(int key) {
            return -999 <= key && key <= 999;
        }

        private boolean has(int handle) {
            return 0 <= handle && handle <= 29 && world.items[handle] != null;
        }

        int size() {
            return world.n(0);
        }

        int insert(int key) {
            argument(isKey(key));
            state(size() < 30);
            record();
            return world.putIn(key);
        }

        int takeLeast() {
            state(size() > 0);
            record();
            int handle = world.leastHandle(0);
            world.takeOut(handle);
            return handle;
        }

        int takeGreatest() {
            state(size() > 0);
            record();
            int handle = world.greatestHandle(0);
            world.takeGreatestOut();
            return handle;
        }

        int remove(int handle) {
            index(has(handle));
            record();
            int key = world.items[handle].key;
            world.takeOut(handle);
            return key;
        }

        int change(int handle, int key) {
            index(has(handle));
            argument(isKey(key));
            record();
            int previous = world.items[handle].key;
            world.rekey(handle, key);
            return previous;
        }

        int build() {
            record();
            int before = sum();
            world.buildAll();
            return sum() - before;
        }

        private int sum() {
            return world.counts[0] + world.counts[1] + world.counts[2];
        }

        int clear() {
            record();
            int count = size();
            World empty = new World();
            System.arraycopy(world.counts, 0, empty.counts, 0, 3);
            world = empty;
            return count;
        }

        int handles() {
            int mask = 0;
            for (int handle = 0; handle < 30; handle++) {
                mask += has(handle) ? 1 << handle : 0;
            }
            return mask;
        }

        int key(int handle) {
            index(has(handle));
            return world.items[handle].key;
        }

        int fill(int count, int start) {
            argument(1 <= count && count <= 30 && start >= 0);
            state(size() + count <= 30);
            record();
            java.math.BigInteger x = java.math.BigInteger.valueOf(start);
            for (int i = 0; i < count; i++) {
                x = x.multiply(java.math.BigInteger.valueOf(1103515245)).add(java.math.BigInteger.valueOf(12345))
                    .mod(java.math.BigInteger.TWO.pow(31));
                world.putIn(x.divide(java.math.BigInteger.valueOf(65536)).mod(java.math.BigInteger.valueOf(200)).intValue() - 100);
            }
            return size();
        }

        int least(int queue) {
            argument(0 <= queue && queue <= 2);
            return world.leastHandle(queue);
        }

        int greatest(int queue) {
            argument(0 <= queue && queue <= 2);
            return world.greatestHandle(queue);
        }

        private List<Item> sorted() {
            List<Item> all = new ArrayList<>(world.rows.get(3));
            all.sort(Item.ORDER);
            return all;
        }

        int ranked(int place) {
            return 0 <= place && place < size() ? sorted().get(place).handle : -1;
        }

        int rank(int handle) {
            index(has(handle));
            return sorted().indexOf(world.items[handle]);
        }

        int between(int low, int high) {
            return (int) sorted().stream().filter(item -> low <= item.key && item.key <= high).count();
        }

        private static void layout(int layout) {
            argument(0 <= layout && layout <= 3);
        }

        int at(int layout, int position) {
            layout(layout);
            return 0 <= position && position < size() ? world.get(layout, position).handle : -1;
        }

        int where(int layout, int handle) {
            layout(layout);
            index(has(handle));
            return world.position(layout, handle);
        }

        int violations(int layout) {
            layout(layout);
            return world.broken(layout);
        }

        int disturb(int layout, int one, int other) {
            layout(layout);
            index(0 <= one && one < size() && 0 <= other && other < size());
            record();
            world.swap(layout, one, other);
            return world.broken(layout);
        }

        int level(int position) {
            argument(0 <= position && position <= 1000000);
            return World.depth(position);
        }

        private List<Item> way(int layout, int handle) {
            List<Item> way = new ArrayList<>();
            int i = world.position(layout, handle);
            while (i != 0) {
                i = (i - 1) / 2;
                way.add(world.get(layout, i));
            }
            return way;
        }

        int ancestors(int handle) {
            index(has(handle));
            List<Item> both = way(2, handle);
            both.retainAll(way(3, handle));
            return both.size();
        }

        int comparisons(int queue) {
            argument(0 <= queue && queue <= 2);
            return world.counts[queue];
        }

        int forget() {
            record();
            int sum = sum();
            java.util.Arrays.fill(world.counts, 0);
            return sum;
        }

        int wouldNeed(int queue, int what, int argument) {
            argument(0 <= queue && queue <= 2 && 0 <= what && what <= 4);
            Model twin = new Model();
            twin.world = world.copy();
            try {
                switch (what) {
                    case 0: twin.insert(argument); break;
                    case 1: twin.takeLeast(); break;
                    case 2: twin.takeGreatest(); break;
                    case 3: twin.remove(argument); break;
                    default: twin.build(); break;
                }
            } catch (IllegalArgumentException | IllegalStateException | IndexOutOfBoundsException e) {
                return -1;
            }
            return twin.world.counts[queue] - world.counts[queue];
        }

        int sortingNeeds(int queue) {
            argument(0 <= queue && queue <= 2);
            World twin = world.copy();
            while (twin.n(queue) > 0) {
                int handle = twin.get(queue, 0).handle;
                twin.takeFrom(queue, handle);
                if (queue == 2) {
                    twin.takeFrom(3, handle);
                }
            }
            return twin.counts[queue] - world.counts[queue];
        }

        int fewest() {
            int[] c = world.counts;
            return c[0] <= c[1] && c[0] <= c[2] ? 0 : c[1] <= c[2] ? 1 : 2;
        }

        int type(int c) {
            argument(32 <= c && c <= 126);
            state(text.length() < 120);
            text += (char) c;
            return text.length();
        }

        int clearText() {
            int length = text.length();
            text = "";
            return length;
        }

        private static boolean canBecomeScript(String start) {
            for (String ending : ENDINGS) {
                if (SCRIPT.matcher(start + ending).matches()) {
                    return true;
                }
            }
            return false;
        }

        int fault() {
            for (int i = 0; i < text.length(); i++) {
                if (!canBecomeScript(text.substring(0, i + 1))) {
                    return i;
                }
            }
            return SCRIPT.matcher(text).matches() ? -1 : text.length();
        }

        int run() {
            argument(fault() == -1);
            Model twin = new Model();
            twin.world = world.copy();
            int carriedOut = 0;
            for (String command : text.isEmpty() ? new String[0] : text.split(";")) {
                try {
                    twin.carryOut(command.charAt(0), command.substring(1).split(","));
                    carriedOut++;
                } catch (IllegalArgumentException | IllegalStateException | IndexOutOfBoundsException e) {
                    // skipped
                }
            }
            record();
            world = twin.world;
            return carriedOut;
        }

        private void carryOut(char letter, String[] arguments) {
            switch (letter) {
                case 'i': insert(Integer.parseInt(arguments[0])); break;
                case 'l': takeLeast(); break;
                case 'g': takeGreatest(); break;
                case 'r': remove(Integer.parseInt(arguments[0])); break;
                case 'c': change(Integer.parseInt(arguments[0]), Integer.parseInt(arguments[1])); break;
                default: build(); break;
            }
        }

        int undo() {
            state(!records.isEmpty());
            world = records.removeLast();
            return records.size();
        }

        long checksum() {
            List<Integer> numbers = new ArrayList<>(List.of(size(), handles()));
            for (Item item : world.items) {
                if (item != null) {
                    numbers.add(item.key);
                }
            }
            for (int layout = 0; layout < 4; layout++) {
                world.rows.get(layout).forEach(item -> numbers.add(item.handle));
                numbers.add(violations(layout));
            }
            for (int count : world.counts) {
                numbers.add(count);
            }
            numbers.add(text.length());
            numbers.add(records.size());
            long h = 18601;
            for (int v : numbers) {
                h = 31 * h + v;
            }
            return h;
        }
    }
}
