/** A test for each sentence on queue 2, the pair of heaps, that names a boundary. */
public final class PairBoundaryTests extends Tests {
    private static final String QUEUE_2 = "QUEUE 2, PAIR (layouts 2 and 3)";

    public static void main(String[] args) {
        runSentences(PairBoundaryTests.class);
    }

    /** Layout 2 has the handles in ascending, layout 3 in descending order; ascending keys make both right. */
    private static TwoEndQueues pair(int... keys) {
        TwoEndQueues q = with(keys);
        int[] descending = new int[keys.length];
        for (int position = 0; position < keys.length; position++) {
            descending[position] = keys.length - 1 - position;
        }
        lay(q, 2, upTo(keys.length));
        lay(q, 3, descending);
        q.forget();
        return q;
    }

    private static int[] tens(int n) {
        int[] keys = new int[n];
        for (int handle = 0; handle < n; handle++) {
            keys[handle] = 10 * handle;
        }
        return keys;
    }

    private static void dueBoth(String what, TwoEndQueues q, String wantRow2, String wantRow3, int wantCount) {
        dueText("layout 2 behind " + what, row(q, 2), wantRow2);
        dueText("layout 3 behind " + what, row(q, 3), wantRow3);
        due("the comparisons of " + what, q.comparisons(2), wantCount);
    }

    private static void dueChange(int handle, int key, String wantRow2, String wantRow3, int wantCount, int... keys) {
        TwoEndQueues q = pair(keys);
        q.change(handle, key);
        dueBoth("change(" + handle + ", " + key + ")", q, wantRow2, wantRow3, wantCount);
    }

    private static void dueRemove(int handle, String wantRow2, String wantRow3, int wantCount, int... keys) {
        TwoEndQueues q = pair(keys);
        q.remove(handle);
        dueBoth("remove(" + handle + ") of " + keys.length, q, wantRow2, wantRow3, wantCount);
    }

    /** A change to the same key in right layouts: each parent and each child is one comparison. */
    private static void dueStill(int n, int handle, int wantCount) {
        TwoEndQueues q = pair(tens(n));
        String before = row(q, 2) + row(q, 3);
        q.change(handle, 10 * handle);
        dueText("the layouts", row(q, 2) + row(q, 3), before);
        due("the comparisons of change(" + handle + ", same) with " + n + " items", q.comparisons(2), wantCount);
    }

    /** Puts an item in behind the keys 0, 10, .. ; it comes to these positions of layouts 2 and 3. */
    private static void dueRise(int n, int key, int want2, int want3, int wantCount) {
        TwoEndQueues q = pair(tens(n));
        int handle = q.insert(key);
        due("where(2, " + handle + ") behind insert(" + key + ") as item " + n, q.where(2, handle), want2);
        due("where(3, " + handle + ") behind insert(" + key + ") as item " + n, q.where(3, handle), want3);
        due("the comparisons of insert(" + key + ") as item " + n, q.comparisons(2), wantCount);
    }

    @Sentence(of = QUEUE_2, says = "Both layouts have parents and children like layout 1.")
    static void parentsAndChildren() {
        dueStill(1, 0, 0);
        dueStill(2, 0, 2);
        dueStill(3, 0, 3);
        dueStill(3, 1, 2);
        dueStill(4, 1, 3);
        dueStill(5, 1, 4);
        // 29 is the only child of 14; in layout 3 the handle 14 is at 15 of 30, and at 14 of 29
        dueStill(30, 14, 3);
        dueStill(29, 14, 2);
        dueStill(30, 15, 3);
        dueStill(30, 13, 4);
        dueStill(30, 0, 3);
        dueStill(30, 29, 3);
    }

    @Sentence(of = QUEUE_2,
        says = "In layout 2 an item is ahead of another one if it is less; in layout 3 a is ahead of b if b is less than a (b is compared with a).")
    static void aheadInBothLayouts() {
        TwoEndQueues q = with(5, 5);
        dueBoth("equal keys", q, "[0, 1]", "[1, 0]", 2);
        dueBoth("a key less by one", with(5, 4), "[1, 0]", "[0, 1]", 2);
        dueBoth("a key greater by one", with(5, 6), "[0, 1]", "[1, 0]", 2);
        dueBoth("the least and the greatest key", with(999, -999), "[1, 0]", "[0, 1]", 2);
        // a new item with the lower handle is less, with an equal key
        TwoEndQueues gap = with(7, 5);
        gap.remove(0);
        gap.forget();
        gap.insert(5);
        dueBoth("equal keys, the lower handle comes later", gap, "[0, 1]", "[1, 0]", 2);
    }

    @Sentence(of = QUEUE_2,
        says = "up(i): as long as i is above 0: if the item at i is ahead of that at its parent, both positions are exchanged, and it goes on with the parent; otherwise it ends.")
    static void up() {
        // 28 - 13 - 6 - 2 - 0, and 29 - 14 - 6 - 2 - 0; in the other layout one comparison is enough
        dueRise(28, -999, 0, 28, 5);
        dueRise(28, 999, 28, 0, 5);
        dueRise(29, -999, 0, 29, 5);
        dueRise(29, 999, 29, 0, 5);
        dueRise(1, -999, 0, 1, 2);
        // layout 2 has 130, 60 and 20 above 28: less by one, and equal keys
        dueRise(28, 60, 13, 28, 3);
        dueRise(28, 59, 6, 28, 4);
        dueRise(28, 130, 28, 28, 2);
        // layout 3 has 140, 210 and 250 above 28; of equal keys the new item has the greater handle
        dueRise(28, 209, 28, 13, 3);
        dueRise(28, 210, 28, 6, 4);
        dueRise(28, 139, 28, 28, 2);
    }

    @Sentence(of = QUEUE_2, says = "down(i): if i has no child, it ends.")
    static void downWithoutChild() {
        dueChange(0, 99, "[0]", "[0]", 0, 5);
        // at the last positions of both layouts nothing but the parent is compared
        dueStill(3, 1, 2);
        dueChange(1, 11, "[0, 1, 2]", "[2, 1, 0]", 2, 0, 10, 20);
    }

    @Sentence(of = QUEUE_2,
        says = "The child c is the first one; if there is a second one, and the item there is ahead of that at the first one, c is the second one.")
    static void downChoosesChild() {
        // one child
        dueChange(0, 15, "[1, 0]", "[0, 1]", 2, 0, 10);
        // two, in layout 2: the first, the second, and with equal keys the lower handle
        dueChange(0, 30, "[1, 0, 2]", "[0, 1, 2]", 3, 0, 10, 20);
        dueChange(0, 30, "[2, 1, 0]", "[0, 1, 2]", 3, 0, 20, 10);
        dueChange(0, 30, "[1, 0, 2]", "[0, 1, 2]", 3, 0, 10, 10);
        // in layout 3: the first, the second, and with equal keys the greater handle
        dueChange(2, -5, "[2, 1, 0]", "[1, 2, 0]", 3, 0, 10, 20);
        dueChange(2, -5, "[2, 1, 0]", "[0, 1, 2]", 3, 10, 0, 20);
        dueChange(2, -5, "[2, 1, 0]", "[1, 2, 0]", 3, 10, 10, 20);
        TwoEndQueues q = pair(10, 10, 20);
        q.disturb(3, 1, 2);
        q.change(2, -5);
        dueBoth("change(2, -5) with the greater handle at the second child", q, "[2, 1, 0]", "[1, 0, 2]", 3);
    }

    @Sentence(of = QUEUE_2,
        says = "If the item at c is ahead of that at i, both positions are exchanged, and it goes on with down(c); otherwise it ends.")
    static void downGoesOn() {
        dueChange(0, 999, "[1, 3, 2, 0, 4, 5, 6]", "[0, 5, 6, 3, 2, 1, 4]", 6, tens(7));
        dueChange(0, 25, "[1, 0, 2, 3, 4, 5, 6]", "[6, 5, 4, 3, 2, 1, 0]", 5, tens(7));
        // equal keys: in layout 2 the upper item has the lower handle and stays
        dueChange(0, 10, "[0, 1]", "[1, 0]", 2, 0, 10);
        dueChange(0, 11, "[1, 0]", "[0, 1]", 2, 0, 10);
        // in layout 3 the upper one has the greater handle and stays
        dueChange(1, 0, "[0, 1]", "[1, 0]", 2, 0, 10);
        dueChange(1, -1, "[1, 0]", "[0, 1]", 2, 0, 10);
    }

    @Sentence(of = QUEUE_2, says = "To put an item in: in layout 2, and then in layout 3, it comes to position n; then up(n).")
    static void putIn() {
        TwoEndQueues q = new TwoEndQueues();
        q.insert(5);
        dueBoth("the first insert()", q, "[0]", "[0]", 0);
        dueRise(28, 135, 28, 28, 2);
    }

    @Sentence(of = QUEUE_2,
        says = "the item at the last position comes to i, and the last position is gone; if i was not the last position, up(i), and then down(i)")
    static void takeOut() {
        dueRemove(0, "[]", "[]", 0, 5);
        dueRemove(0, "[1]", "[1]", 0, 0, 10);
        // the last position of one layout, and the first of the other
        dueRemove(2, "[0, 1]", "[1, 0]", 1, 0, 10, 20);
        dueRemove(0, "[1, 2]", "[2, 1]", 1, 0, 10, 20);
        // of neither
        dueRemove(1, "[0, 2]", "[2, 0]", 2, 0, 10, 20);
        // what comes to 3 is less than the item at 1, and goes up
        dueRemove(3, "[0, 6, 2, 1, 4, 5]", "[6, 5, 4, 0, 2, 1]", 3, 0, 50, 10, 60, 70, 20, 30);
    }

    @Sentence(of = QUEUE_2, says = "up(i), and then down(i), with i as its position before")
    static void keyChanged() {
        dueChange(0, 7, "[0]", "[0]", 0, 5);
        // the item goes up to 0; down() is done at 1, where it was
        dueChange(1, -5, "[1, 0, 2, 3]", "[3, 2, 1, 0]", 3, tens(4));
        // both ways are open in layout 2, 50 above and 10 below: up() comes first, then 10 goes past 50
        dueChange(1, 20, "[1, 3, 2, 0]", "[1, 2, 3, 0]", 3, 50, 20, 60, 10);
        // in layout 3 the item 2 goes up from 1, where its old parent has one child to be compared with
        dueChange(2, 35, "[0, 1, 2, 3]", "[2, 3, 1, 0]", 3, tens(4));
    }

    private static void dueBuild(String wantRow2, String wantRow3, int wantCount, int... keys) {
        TwoEndQueues q = with(keys);
        q.forget();
        q.build();
        dueBoth("build() of " + keys.length, q, wantRow2, wantRow3, wantCount);
    }

    @Sentence(of = QUEUE_2,
        says = "the items are put in a row in ascending order of their handles; then down(i) for each position i from n - 1 down to 0")
    static void buildFromTheLastPosition() {
        dueBuild("[]", "[]", 0);
        dueBuild("[0]", "[0]", 0, 5);
        dueBuild("[0, 1]", "[1, 0]", 2, 5, 5);
        dueBuild("[2, 1, 0]", "[0, 1, 2]", 4, 5, 4, 3);
        dueBuild("[3, 1, 2, 0]", "[0, 1, 2, 3]", 7, 4, 3, 2, 1);
        TwoEndQueues gaps = with(1, 90, 2, 80, 3);
        gaps.remove(0);
        gaps.remove(3);
        gaps.forget();
        gaps.build();
        // the row is 1, 2, 4 with the keys 90, 2, 3
        dueBoth("build() with gaps in the handles", gaps, "[2, 1, 4]", "[1, 2, 4]", 4);
    }

    @Sentence(of = QUEUE_2, says = "The least item is that at position 0 of layout 2, the greatest one that at position 0 of layout 3.")
    static void ends() {
        due("least(2) without items", new TwoEndQueues().least(2), NONE);
        due("greatest(2) without items", new TwoEndQueues().greatest(2), NONE);
        due("least(2) of one", pair(5).least(2), 0);
        due("greatest(2) of one", pair(5).greatest(2), 0);
        TwoEndQueues q = pair(0, 10, 20);
        q.disturb(2, 0, 1);
        q.disturb(3, 0, 2);
        due("least(2) by its layout", q.least(2), 1);
        due("greatest(2) by its layout", q.greatest(2), 0);
    }
}
