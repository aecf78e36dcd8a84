/**
 * Three queues with two ends that do the same side by side: an interval heap, a heap whose levels
 * are in turn for the least and the greatest, and a pair of heaps.
 */
public final class TwoEndQueues {
    public static final int NONE = -1;

    private static final int MOST_ITEMS = 30;
    private static final int GREATEST_KEY = 999;
    private static final int QUEUES = 3;
    private static final int LAYOUTS = 4;
    private static final int PAIR = 2;
    private static final int MOST_TEXT = 120;
    private static final int MOST_RECORDS = 5;
    private static final int LAST_LEVEL_POSITION = 1000000;

    /** The first five are the numbers that wouldNeed() uses; a script has the sixth too. */
    private static final int INSERT = 0;
    private static final int TAKE_LEAST = 1;
    private static final int TAKE_GREATEST = 2;
    private static final int REMOVE = 3;
    private static final int BUILD = 4;
    private static final int CHANGE = 5;

    private final Queues queues;
    /** What is only thought of happens here, so that thinking makes no new objects. */
    private final Queues thought;
    private final History history;
    private final Script script;

    public TwoEndQueues() {
        queues = new Queues();
        thought = new Queues();
        history = new History();
        script = new Script();
    }

    public int insert(int key) throws IllegalArgumentException, IllegalStateException {
        requireKey(key);
        if (queues.itemCount() >= MOST_ITEMS) {
            throw new IllegalStateException("there are 30 items");
        }
        history.keep(queues);
        return queues.putIn(key);
    }

    public int takeLeast() throws IllegalStateException {
        requireItems();
        history.keep(queues);
        int handle = queues.leastOf(0);
        queues.carryOut(TAKE_LEAST, NONE, NONE);
        return handle;
    }

    public int takeGreatest() throws IllegalStateException {
        requireItems();
        history.keep(queues);
        int handle = queues.greatestOf(0);
        queues.carryOut(TAKE_GREATEST, NONE, NONE);
        return handle;
    }

    public int remove(int handle) throws IndexOutOfBoundsException {
        requireItem(handle);
        history.keep(queues);
        int key = queues.keyOf(handle);
        queues.takeOut(handle);
        return key;
    }

    public int change(int handle, int key) throws IndexOutOfBoundsException, IllegalArgumentException {
        requireItem(handle);
        requireKey(key);
        history.keep(queues);
        int previous = queues.keyOf(handle);
        queues.giveKey(handle, key);
        return previous;
    }

    public int build() {
        history.keep(queues);
        int before = queues.countedInAll();
        queues.arrange();
        return queues.countedInAll() - before;
    }

    public int clear() {
        history.keep(queues);
        int count = queues.itemCount();
        queues.empty();
        return count;
    }

    public int size() {
        return queues.itemCount();
    }

    public int handles() {
        return queues.handleSet();
    }

    public int key(int handle) throws IndexOutOfBoundsException {
        requireItem(handle);
        return queues.keyOf(handle);
    }

    public int fill(int count, int start) throws IllegalArgumentException, IllegalStateException {
        if (count < 1 || count > MOST_ITEMS || start < 0) {
            throw new IllegalArgumentException("count is not 1 to 30, or start is negative");
        }
        if (count > MOST_ITEMS - queues.itemCount()) {
            throw new IllegalStateException("there would be more than 30 items");
        }
        history.keep(queues);
        long x = start;
        for (int i = 0; i < count; i++) {
            x = (1103515245L * x + 12345L) % 2147483648L;
            queues.putIn((int) (x / 65536L % 200L) - 100);
        }
        return queues.itemCount();
    }

    public int least(int queue) throws IllegalArgumentException {
        requireQueue(queue);
        return queues.leastOf(queue);
    }

    public int greatest(int queue) throws IllegalArgumentException {
        requireQueue(queue);
        return queues.greatestOf(queue);
    }

    public int ranked(int place) {
        for (int handle = 0; handle < MOST_ITEMS; handle++) {
            if (queues.has(handle) && queues.countLess(handle) == place) {
                return handle;
            }
        }
        return NONE;
    }

    public int rank(int handle) throws IndexOutOfBoundsException {
        requireItem(handle);
        return queues.countLess(handle);
    }

    public int between(int low, int high) {
        int count = 0;
        for (int handle = 0; handle < MOST_ITEMS; handle++) {
            if (queues.has(handle) && queues.keyOf(handle) >= low && queues.keyOf(handle) <= high) {
                count++;
            }
        }
        return count;
    }

    public int at(int layout, int position) throws IllegalArgumentException {
        requireLayout(layout);
        return queues.layout(layout).handleAt(position);
    }

    public int where(int layout, int handle) throws IllegalArgumentException, IndexOutOfBoundsException {
        requireLayout(layout);
        requireItem(handle);
        return queues.layout(layout).find(handle);
    }

    public int violations(int layout) throws IllegalArgumentException {
        requireLayout(layout);
        return queues.layout(layout).brokenPairs();
    }

    public int disturb(int layout, int one, int other) throws IllegalArgumentException, IndexOutOfBoundsException {
        requireLayout(layout);
        requirePosition(one);
        requirePosition(other);
        history.keep(queues);
        queues.layout(layout).exchange(one, other);
        return queues.layout(layout).brokenPairs();
    }

    public int level(int position) throws IllegalArgumentException {
        if (position < 0 || position > LAST_LEVEL_POSITION) {
            throw new IllegalArgumentException("position is not 0 to 1000000");
        }
        return LevelLayout.levelOf(position);
    }

    public int ancestors(int handle) throws IndexOutOfBoundsException {
        requireItem(handle);
        return Integer.bitCount(queues.leastFirst.handlesAbove(handle) & queues.greatestFirst.handlesAbove(handle));
    }

    public int comparisons(int queue) throws IllegalArgumentException {
        requireQueue(queue);
        return queues.countedIn(queue);
    }

    public int forget() {
        history.keep(queues);
        int sum = queues.countedInAll();
        queues.forgetCounts();
        return sum;
    }

    public int wouldNeed(int queue, int what, int argument) throws IllegalArgumentException {
        requireQueue(queue);
        if (what < INSERT || what > BUILD) {
            throw new IllegalArgumentException("what is not 0 to 4");
        }
        thought.copyFrom(queues);
        if (!thought.carryOut(what, argument, argument)) {
            return NONE;
        }
        return thought.countedIn(queue) - queues.countedIn(queue);
    }

    public int sortingNeeds(int queue) throws IllegalArgumentException {
        requireQueue(queue);
        thought.copyFrom(queues);
        for (int left = queues.itemCount(); left > 0; left--) {
            thought.takeOutOf(queue, thought.leastOf(queue));
        }
        return thought.countedIn(queue) - queues.countedIn(queue);
    }

    public int fewest() {
        int best = 0;
        for (int queue = 1; queue < QUEUES; queue++) {
            if (queues.countedIn(queue) < queues.countedIn(best)) {
                best = queue;
            }
        }
        return best;
    }

    public int type(int c) throws IllegalArgumentException, IllegalStateException {
        if (c < 32 || c > 126) {
            throw new IllegalArgumentException("c is not 32 to 126");
        }
        if (script.length >= MOST_TEXT) {
            throw new IllegalStateException("the text has 120 characters");
        }
        script.append((char) c);
        return script.length;
    }

    public int clearText() {
        int length = script.length;
        script.length = 0;
        return length;
    }

    public int fault() {
        return script.firstFault();
    }

    public int run() throws IllegalArgumentException {
        if (script.firstFault() != NONE) {
            throw new IllegalArgumentException("the text has a fault");
        }
        history.keep(queues);
        script.rewind();
        int carriedOut = 0;
        for (int commands = 0; commands < MOST_TEXT && script.readCommand(); commands++) {
            if (queues.carryOut(script.command, script.handle, script.key)) {
                carriedOut++;
            }
        }
        return carriedOut;
    }

    public int undo() throws IllegalStateException {
        if (history.kept == 0) {
            throw new IllegalStateException("there is no record");
        }
        history.restore(queues);
        return history.kept;
    }

    public long checksum() {
        long h = 31L * 18601L + queues.itemCount();
        h = 31L * h + queues.handleSet();
        for (int handle = 0; handle < MOST_ITEMS; handle++) {
            if (queues.has(handle)) {
                h = 31L * h + queues.keyOf(handle);
            }
        }
        for (int layout = 0; layout < LAYOUTS; layout++) {
            for (int position = 0; position < queues.itemCount(); position++) {
                h = 31L * h + queues.layout(layout).handleAt(position);
            }
            h = 31L * h + queues.layout(layout).brokenPairs();
        }
        for (int queue = 0; queue < QUEUES; queue++) {
            h = 31L * h + queues.countedIn(queue);
        }
        h = 31L * h + script.length;
        return 31L * h + history.kept;
    }

    private static void requireKey(int key) {
        if (!isKey(key)) {
            throw new IllegalArgumentException("key is not -999 to 999");
        }
    }

    private static void requireQueue(int queue) {
        if (queue < 0 || queue >= QUEUES) {
            throw new IllegalArgumentException("queue is not 0 to 2");
        }
    }

    private static void requireLayout(int layout) {
        if (layout < 0 || layout >= LAYOUTS) {
            throw new IllegalArgumentException("layout is not 0 to 3");
        }
    }

    private void requireItem(int handle) {
        if (!queues.has(handle)) {
            throw new IndexOutOfBoundsException("there is no such item");
        }
    }

    private void requirePosition(int position) {
        if (position < 0 || position >= queues.itemCount()) {
            throw new IndexOutOfBoundsException("there is no such position");
        }
    }

    private void requireItems() {
        if (queues.itemCount() == 0) {
            throw new IllegalStateException("there is no item");
        }
    }

    private static boolean isKey(int key) {
        return key >= -GREATEST_KEY && key <= GREATEST_KEY;
    }

    /**
     * A row of all items, kept in order by rules of its own. An item is one number, its key times
     * 32 plus its handle, so that comparing two numbers compares first the keys and then the handles.
     */
    private abstract static class Layout {
        static final boolean LEAST = true;
        static final int HANDLE_BITS = 5;
        static final int HANDLE_MASK = 31;

        final int[] items = new int[MOST_ITEMS];
        int length;
        int counted;

        /** Brings the item that has come to the last position to its place. */
        abstract void enter(int position);

        /** Restores the rules when another item, or one with another key, stands at the position. */
        abstract void settle(int position);

        /** Restores the rules, whatever order the items are in. */
        abstract void settleAll();

        abstract int brokenPairs();

        /** Serves the nodes of layout 0 and the positions of the others: both count on in the same way. */
        static int parentOf(int child) {
            return (child - 1) / 2;
        }

        boolean isPosition(int position) {
            return position >= 0 && position < length;
        }

        int itemAt(int position) {
            return isPosition(position) ? items[position] : NONE;
        }

        int handleAt(int position) {
            return isPosition(position) ? items[position] & HANDLE_MASK : NONE;
        }

        int keyAt(int position) {
            return itemAt(position) >> HANDLE_BITS;
        }

        int find(int handle) {
            for (int position = 0; position < length; position++) {
                if (handleAt(position) == handle) {
                    return position;
                }
            }
            return NONE;
        }

        /** One counted comparison: is the item at one less (for LEAST) or greater than that at other? */
        boolean ahead(int one, int other, boolean forLeast) {
            counted++;
            if (one < 0 || one >= length || other < 0 || other >= length) {
                return false;
            }
            return forLeast ? items[one] < items[other] : items[other] < items[one];
        }

        void exchange(int one, int other) {
            if (one >= 0 && one < length && other >= 0 && other < length) {
                int item = items[one];
                items[one] = items[other];
                items[other] = item;
            }
        }

        void putIn(int handle, int key) {
            if (length < items.length) {
                items[length] = (key << HANDLE_BITS) + handle;
                length++;
                enter(length - 1);
            }
        }

        void takeOut(int handle) {
            int position = find(handle);
            if (isPosition(position)) {
                items[position] = items[length - 1];
                length--;
                if (position < length) {
                    settle(position);
                }
            }
        }

        void giveKey(int handle, int key) {
            int position = find(handle);
            if (isPosition(position)) {
                items[position] = (key << HANDLE_BITS) + handle;
                settle(position);
            }
        }

        void arrange() {
            lineUp();
            settleAll();
        }

        /** The positions before next hold the lower handles already, so none of them is moved again. */
        private void lineUp() {
            int next = 0;
            for (int handle = 0; handle < MOST_ITEMS; handle++) {
                int position = find(handle);
                if (position != NONE) {
                    exchange(next, position);
                    next++;
                }
            }
        }

        void copyFrom(Layout other) {
            System.arraycopy(other.items, 0, items, 0, MOST_ITEMS);
            length = other.length;
            counted = other.counted;
        }
    }

    /** Layout 0: node k has the positions 2k (low) and 2k + 1 (high). */
    private static final class IntervalLayout extends Layout {
        private static int low(int node) {
            return 2 * node;
        }

        private static int high(int node) {
            return 2 * node + 1;
        }

        private int top(int node) {
            return high(node) < length ? high(node) : low(node);
        }

        int greatestPosition() {
            return top(0);
        }

        private void order(int node) {
            if (high(node) < length && ahead(high(node), low(node), LEAST)) {
                exchange(high(node), low(node));
            }
        }

        private void riseLow(int node) {
            for (int k = node; k > 0; k = (k - 1) / 2) {
                int above = low(parentOf(k));
                if (!ahead(low(k), above, LEAST)) {
                    return;
                }
                exchange(low(k), above);
            }
        }

        private void riseHigh(int node, int position) {
            int i = position;
            for (int k = node; k > 0; k = (k - 1) / 2) {
                int above = high(parentOf(k));
                if (!ahead(above, i, LEAST)) {
                    return;
                }
                exchange(above, i);
                i = above;
            }
        }

        private void sinkLow(int node) {
            int k = node;
            for (int steps = 0; steps < MOST_ITEMS; steps++) {
                order(k);
                int first = 2 * k + 1;
                int second = first + 1;
                if (low(first) >= length) {
                    return;
                }
                int child = low(second) < length && ahead(low(second), low(first), LEAST) ? second : first;
                if (!ahead(low(child), low(k), LEAST)) {
                    return;
                }
                exchange(low(child), low(k));
                k = child;
            }
        }

        private void sinkHigh(int node) {
            int k = node;
            for (int steps = 0; steps < MOST_ITEMS; steps++) {
                order(k);
                int first = 2 * k + 1;
                int second = first + 1;
                if (low(first) >= length) {
                    return;
                }
                int child = low(second) < length && ahead(top(first), top(second), LEAST) ? second : first;
                if (!ahead(top(k), top(child), LEAST)) {
                    return;
                }
                exchange(top(k), top(child));
                k = child;
            }
        }

        @Override
        void enter(int position) {
            if (position == 0) {
                return;
            }
            int node = position / 2;
            boolean isHigh = position == high(node);
            int bound = isHigh ? low(node) : low(parentOf(node));
            if (!ahead(position, bound, LEAST)) {
                riseHigh(node, position);
                return;
            }
            if (isHigh) {
                exchange(position, bound);
            }
            riseLow(node);
        }

        @Override
        void settle(int position) {
            int node = position / 2;
            order(node);
            riseLow(node);
            riseHigh(node, top(node));
            sinkLow(node);
            sinkHigh(node);
        }

        @Override
        void settleAll() {
            for (int node = (length + 1) / 2 - 1; node >= 0; node--) {
                sinkLow(node);
                sinkHigh(node);
            }
        }

        @Override
        int brokenPairs() {
            int broken = 0;
            for (int node = 0; low(node) < length; node++) {
                if (itemAt(top(node)) < itemAt(low(node))) {
                    broken++;
                }
                if (node > 0 && itemAt(low(node)) < itemAt(low(parentOf(node)))) {
                    broken++;
                }
                if (node > 0 && itemAt(high(parentOf(node))) < itemAt(top(node))) {
                    broken++;
                }
            }
            return broken;
        }
    }

    /** Layout 1: even levels are for the least, odd ones for the greatest. */
    private static final class LevelLayout extends Layout {
        static int levelOf(int position) {
            int level = 0;
            for (int i = position; i > 0; i = (i - 1) / 2) {
                level++;
            }
            return level;
        }

        private static boolean isLow(int position) {
            return levelOf(position) % 2 == 0;
        }

        int greatestPosition() {
            if (length < 3) {
                return length - 1;
            }
            return itemAt(1) < itemAt(2) ? 2 : 1;
        }

        /** Asking for the greatest item is free; only taking it out counts what finding it needs. */
        void countFindingGreatest() {
            if (length >= 3) {
                counted++;
            }
        }

        /** From position 3 on, the parent has a parent: (i - 3) / 4. */
        private void rise(int position, boolean low) {
            for (int i = position; i > 2; i = (i - 3) / 4) {
                int above = (i - 3) / 4;
                if (!ahead(i, above, low)) {
                    return;
                }
                exchange(i, above);
            }
        }

        private int foremostBelow(int position, boolean low) {
            int best = 2 * position + 1;
            if (best >= length) {
                return NONE;
            }
            for (int nth = 1; nth <= 5; nth++) {
                int below = nth == 1 ? 2 * position + 2 : 4 * position + 1 + nth;
                if (below < length && ahead(below, best, low)) {
                    best = below;
                }
            }
            return best;
        }

        private void sink(int position) {
            boolean low = isLow(position);
            int i = position;
            for (int steps = 0; steps < MOST_ITEMS; steps++) {
                int best = foremostBelow(i, low);
                if (best == NONE || !ahead(best, i, low)) {
                    return;
                }
                exchange(best, i);
                int parent = parentOf(best);
                if (parent == i) {
                    return;
                }
                if (ahead(parent, best, low)) {
                    exchange(parent, best);
                }
                i = best;
            }
        }

        @Override
        void enter(int position) {
            if (position == 0) {
                return;
            }
            boolean low = isLow(position);
            int parent = parentOf(position);
            if (ahead(parent, position, low)) {
                exchange(parent, position);
                rise(parent, !low);
            } else {
                rise(position, low);
            }
        }

        @Override
        void settle(int position) {
            enter(position);
            sink(position);
        }

        @Override
        void settleAll() {
            for (int position = length - 1; position >= 0; position--) {
                sink(position);
            }
        }

        @Override
        int brokenPairs() {
            int broken = 0;
            for (int below = 1; below < length; below++) {
                for (int i = below; i > 0; i = (i - 1) / 2) {
                    int above = parentOf(i);
                    boolean low = isLow(above);
                    if (low && itemAt(below) < itemAt(above) || !low && itemAt(above) < itemAt(below)) {
                        broken++;
                    }
                }
            }
            return broken;
        }
    }

    /** Layouts 2 and 3: a heap with the least, or with the greatest, item at position 0. */
    private static final class HeapLayout extends Layout {
        private final boolean forLeast;

        HeapLayout(boolean forLeast) {
            this.forLeast = forLeast;
        }

        int handlesAbove(int handle) {
            int set = 0;
            for (int i = find(handle); i > 0; i = (i - 1) / 2) {
                set |= 1 << handleAt(parentOf(i));
            }
            return set;
        }

        private void down(int position) {
            int i = position;
            for (int steps = 0; steps < MOST_ITEMS; steps++) {
                int first = 2 * i + 1;
                int second = first + 1;
                if (first >= length) {
                    return;
                }
                int child = second < length && ahead(second, first, forLeast) ? second : first;
                if (!ahead(child, i, forLeast)) {
                    return;
                }
                exchange(child, i);
                i = child;
            }
        }

        /** The document's up(i). */
        @Override
        void enter(int position) {
            for (int i = position; i > 0; i = (i - 1) / 2) {
                if (!ahead(i, parentOf(i), forLeast)) {
                    return;
                }
                exchange(i, parentOf(i));
            }
        }

        @Override
        void settle(int position) {
            enter(position);
            down(position);
        }

        @Override
        void settleAll() {
            for (int position = length - 1; position >= 0; position--) {
                down(position);
            }
        }

        @Override
        int brokenPairs() {
            int broken = 0;
            for (int i = 1; i < length; i++) {
                int lower = forLeast ? parentOf(i) : i;
                int upper = forLeast ? i : parentOf(i);
                if (itemAt(upper) < itemAt(lower)) {
                    broken++;
                }
            }
            return broken;
        }
    }

    /** The three queues with their four layouts, which always hold the same items, and the counts. */
    private static final class Queues {
        final IntervalLayout interval = new IntervalLayout();
        final LevelLayout levels = new LevelLayout();
        final HeapLayout leastFirst = new HeapLayout(true);
        final HeapLayout greatestFirst = new HeapLayout(false);

        Layout layout(int index) {
            switch (index) {
                case 0:
                    return interval;
                case 1:
                    return levels;
                case 2:
                    return leastFirst;
                default:
                    return greatestFirst;
            }
        }

        int itemCount() {
            return interval.length;
        }

        boolean has(int handle) {
            return interval.find(handle) != NONE;
        }

        int keyOf(int handle) {
            return interval.keyAt(interval.find(handle));
        }

        int handleSet() {
            int set = 0;
            for (int position = 0; position < interval.length; position++) {
                set |= 1 << interval.handleAt(position);
            }
            return set;
        }

        int countLess(int handle) {
            int item = interval.itemAt(interval.find(handle));
            int count = 0;
            for (int position = 0; position < interval.length; position++) {
                if (interval.itemAt(position) < item) {
                    count++;
                }
            }
            return count;
        }

        int leastOf(int queue) {
            return layout(queue).handleAt(0);
        }

        int greatestOf(int queue) {
            switch (queue) {
                case 0:
                    return interval.handleAt(interval.greatestPosition());
                case 1:
                    return levels.handleAt(levels.greatestPosition());
                default:
                    return greatestFirst.handleAt(0);
            }
        }

        int countedIn(int queue) {
            return queue == PAIR ? leastFirst.counted + greatestFirst.counted : layout(queue).counted;
        }

        int countedInAll() {
            return countedIn(0) + countedIn(1) + countedIn(PAIR);
        }

        void forgetCounts() {
            for (int i = 0; i < LAYOUTS; i++) {
                layout(i).counted = 0;
            }
        }

        private int lowestFreeHandle() {
            int handle = 0;
            while (handle < MOST_ITEMS && has(handle)) {
                handle++;
            }
            return handle;
        }

        int putIn(int key) {
            int handle = lowestFreeHandle();
            for (int i = 0; i < LAYOUTS; i++) {
                layout(i).putIn(handle, key);
            }
            return handle;
        }

        void takeOut(int handle) {
            for (int i = 0; i < LAYOUTS; i++) {
                layout(i).takeOut(handle);
            }
        }

        void takeOutOf(int queue, int handle) {
            layout(queue).takeOut(handle);
            if (queue == PAIR) {
                greatestFirst.takeOut(handle);
            }
        }

        void giveKey(int handle, int key) {
            for (int i = 0; i < LAYOUTS; i++) {
                layout(i).giveKey(handle, key);
            }
        }

        void arrange() {
            for (int i = 0; i < LAYOUTS; i++) {
                layout(i).arrange();
            }
        }

        void empty() {
            for (int i = 0; i < LAYOUTS; i++) {
                layout(i).length = 0;
            }
        }

        void copyFrom(Queues other) {
            for (int i = 0; i < LAYOUTS; i++) {
                layout(i).copyFrom(other.layout(i));
            }
        }

        private boolean isPossible(int command, int handle, int key) {
            switch (command) {
                case INSERT:
                    return isKey(key) && itemCount() < MOST_ITEMS;
                case TAKE_LEAST:
                case TAKE_GREATEST:
                    return itemCount() > 0;
                case REMOVE:
                    return has(handle);
                case CHANGE:
                    return has(handle) && isKey(key);
                default:
                    return command == BUILD;
            }
        }

        /** Answers whether the command was carried out; one whose call would throw does nothing. */
        boolean carryOut(int command, int handle, int key) {
            if (!isPossible(command, handle, key)) {
                return false;
            }
            switch (command) {
                case INSERT:
                    putIn(key);
                    break;
                case TAKE_LEAST:
                    takeOut(leastOf(0));
                    break;
                case TAKE_GREATEST:
                    levels.countFindingGreatest();
                    takeOut(greatestOf(0));
                    break;
                case REMOVE:
                    takeOut(handle);
                    break;
                case CHANGE:
                    giveKey(handle, key);
                    break;
                default:
                    arrange();
                    break;
            }
            return true;
        }
    }

    /** The latest records, in a ring whose oldest one is written over. */
    private static final class History {
        private final Queues[] ring = new Queues[MOST_RECORDS];
        private int next;
        int kept;

        History() {
            for (int i = 0; i < MOST_RECORDS; i++) {
                ring[i] = new Queues();
            }
        }

        private Queues slotAt(int index) {
            return index >= 0 && index < ring.length ? ring[index] : null;
        }

        void keep(Queues now) {
            Queues slot = slotAt(next);
            if (slot != null) {
                slot.copyFrom(now);
                next = (next + 1) % MOST_RECORDS;
                kept = Math.min(kept + 1, MOST_RECORDS);
            }
        }

        void restore(Queues now) {
            int latest = (next + MOST_RECORDS - 1) % MOST_RECORDS;
            Queues slot = slotAt(latest);
            if (kept > 0 && slot != null) {
                now.copyFrom(slot);
                next = latest;
                kept--;
            }
        }
    }

    /** The text buffer, and a reader that goes through it command by command. */
    private static final class Script {
        private static final char END = 0;

        private final char[] signs = new char[MOST_TEXT];
        private int cursor;
        private int number;
        int length;
        int command;
        int handle;
        int key;

        void append(char sign) {
            if (length < signs.length) {
                signs[length] = sign;
                length++;
            }
        }

        void rewind() {
            cursor = 0;
        }

        int firstFault() {
            rewind();
            for (int commands = 0; commands < MOST_TEXT && cursor < length; commands++) {
                if (!readCommand()) {
                    return cursor;
                }
            }
            return NONE;
        }

        /** Where it answers false, the cursor stands at the first character that is not allowed. */
        boolean readCommand() {
            command = commandOf(current());
            if (command == NONE) {
                return false;
            }
            cursor++;
            return readArguments() && readSign(';');
        }

        private static int commandOf(char letter) {
            switch (letter) {
                case 'i':
                    return INSERT;
                case 'l':
                    return TAKE_LEAST;
                case 'g':
                    return TAKE_GREATEST;
                case 'r':
                    return REMOVE;
                case 'c':
                    return CHANGE;
                case 'b':
                    return BUILD;
                default:
                    return NONE;
            }
        }

        private boolean readArguments() {
            switch (command) {
                case INSERT:
                    return readKey();
                case REMOVE:
                    return readHandle();
                case CHANGE:
                    return readHandle() && readSign(',') && readKey();
                default:
                    return true;
            }
        }

        private boolean readKey() {
            boolean negative = readSign('-');
            boolean isRead = readNumber(3);
            key = negative ? -number : number;
            return isRead;
        }

        private boolean readHandle() {
            boolean isRead = readNumber(2);
            handle = number;
            return isRead;
        }

        private boolean readNumber(int mostDigits) {
            number = 0;
            int digits = 0;
            while (digits < mostDigits && current() >= '0' && current() <= '9') {
                number = 10 * number + (current() - '0');
                cursor++;
                digits++;
            }
            return digits > 0;
        }

        private boolean readSign(char sign) {
            if (current() != sign) {
                return false;
            }
            cursor++;
            return true;
        }

        private char current() {
            return cursor >= 0 && cursor < length ? signs[cursor] : END;
        }
    }
}
