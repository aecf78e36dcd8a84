/** A test for each sentence on queue 1, the levels, that names a boundary. */
public final class LevelBoundaryTests extends Tests {
    private static final String QUEUE_1 = "QUEUE 1, LEVELS (layout 1)";

    public static void main(String[] args) {
        runSentences(LevelBoundaryTests.class);
    }

    private static void dueChange(int position, int key, String wantRow, int wantCount, int... keys) {
        dueChange(1, position, key, wantRow, wantCount, keys);
    }

    private static void dueStill(int n, int position, int wantCount) {
        dueStill(1, position, wantCount, levelKeys(n));
    }

    private static void dueRise(int n, int key, int want, int wantCount) {
        dueRise(1, key, want, wantCount, levelKeys(n));
    }

    @Sentence(of = QUEUE_1,
        says = "The parent of position i above 0 is (i - 1) / 2, rounded down; its children are 2i + 1 and 2i + 2, as far as they exist.")
    static void parentsAndChildren() {
        // an item at 13 or 14 that is less than its parent, 6, goes there; one at 12 has the parent 5
        dueRise(14, 5, 6, 2);
        dueRise(13, 5, 6, 2);
        dueRise(12, 4, 5, 2);
        // the last position, 29, is the only child of 14
        dueStill(29, 14, 2);
        dueStill(30, 14, 3);
        dueStill(30, 13, 4);
        dueStill(30, 15, 2);
    }

    @Sentence(of = QUEUE_1,
        says = "Position 0 is on level 0, children are one level below their parent. Even levels are low, odd ones high.")
    static void levels() {
        int[][] firstAndLast = {{0, 0}, {1, 2}, {3, 6}, {7, 14}, {15, 30}};
        TwoEndQueues q = new TwoEndQueues();
        for (int level = 0; level < 5; level++) {
            due("level(" + firstAndLast[level][0] + ")", q.level(firstAndLast[level][0]), level);
            due("level(" + firstAndLast[level][1] + ")", q.level(firstAndLast[level][1]), level);
        }
        // the least item comes to 0 by way of low levels, the greatest to 1 or 2 by way of high ones
        int[][] leastAndGreatest = {{1, 1, 1}, {2, 1, 2}, {3, 2, 1}, {6, 2, 2}, {7, 2, 1}, {14, 2, 2}, {15, 3, 1}, {29, 3, 2}};
        for (int[] row : leastAndGreatest) {
            dueRise(row[0], -999, 0, row[1]);
            dueRise(row[0], 999, row[2], row[0] == 1 || row[0] == 2 || row[0] == 3 || row[0] == 6 ? 1 : 2);
        }
    }

    @Sentence(of = QUEUE_1, says = "rise(i): as long as the parent of i has a parent g")
    static void riseAsLongAsThereIsGrandparent() {
        // at 1 and 2 only enter() compares; from 3 on there is a grandparent
        dueRise(1, 250, 1, 1);
        dueRise(2, 250, 2, 1);
        dueRise(3, 250, 3, 2);
        dueRise(6, 250, 6, 2);
        // 15 - 3 - 0, and 29 - 6 - 0
        dueRise(15, -1, 0, 3);
        dueRise(29, -1, 0, 3);
    }

    @Sentence(of = QUEUE_1, says = "if it is less, both positions are exchanged, and it goes on with g in place of i; otherwise it ends")
    static void riseEnds() {
        // low: 3 and 0 stand above 15, with the keys 3 and 0
        dueRise(15, 3, 15, 2);
        dueRise(15, 2, 3, 3);
        dueRise(15, 0, 3, 3);
        // high: 1 stands above 7, with the key 499; of equal keys the new item has the greater handle
        dueRise(7, 498, 7, 2);
        dueRise(7, 499, 1, 2);
        dueRise(15, 498, 7, 2);
        dueRise(15, 499, 1, 2);
    }

    @Sentence(of = QUEUE_1,
        says = "the positions below are the children of i and their children, in ascending order, as far as they exist. If there is none, it ends.")
    static void positionsBelow() {
        // each position below is one comparison; enter() adds one at 1 and 2, and two at 3
        int[] at0 = {0, 1, 2, 3, 4, 5, 6, 6};
        for (int n = 1; n <= 8; n++) {
            dueStill(n, 0, at0[n - 1]);
        }
        int[] at1 = {1, 1, 2, 3, 3, 3, 4, 5, 6, 7, 7};
        for (int n = 2; n <= 12; n++) {
            dueStill(n, 1, at1[n - 2]);
        }
        int[] at2 = {1, 2, 3, 3, 3, 3, 3, 4, 5, 6, 7, 7};
        for (int n = 5; n <= 16; n++) {
            dueStill(n, 2, at2[n - 5]);
        }
        int[] at3 = {2, 3, 4, 4, 4, 4, 4, 4, 4, 5, 6, 7, 8, 8};
        for (int n = 7; n <= 20; n++) {
            dueStill(n, 3, at3[n - 7]);
        }
    }

    @Sentence(of = QUEUE_1,
        says = "Let b be the first of them; for each other one c, in order: if the level of i is low, the item at c is compared with that at b, otherwise the one at b with that at c; if it is less, b becomes c.")
    static void theForemostBelow() {
        String[] fromLow = {
            "[1, 0, 2, 3, 4, 5, 6]", "[2, 1, 0, 3, 4, 5, 6]", "[3, 0, 2, 1, 4, 5, 6]",
            "[4, 0, 2, 3, 1, 5, 6]", "[5, 1, 0, 3, 4, 2, 6]", "[6, 1, 0, 3, 4, 5, 2]",
        };
        int[] low = {0, 101, 102, 103, 104, 105, 106};
        for (int least = 1; least <= 6; least++) {
            dueChange(0, 900, fromLow[least - 1], least < 3 ? 6 : 7, put(low, least, -500));
        }
        dueChange(0, 9, "[1, 0, 2, 3, 4, 5, 6]", 6, 0, 5, 5, 5, 5, 5, 5);
        int[] below = {3, 4, 7, 8, 9, 10};
        String[] fromHigh = {
            "[0, 3, 2, 1, 4, 5, 6, 7, 8, 9, 10]", "[0, 4, 2, 3, 1, 5, 6, 7, 8, 9, 10]", "[0, 7, 2, 1, 4, 5, 6, 3, 8, 9, 10]",
            "[0, 8, 2, 1, 4, 5, 6, 7, 3, 9, 10]", "[0, 9, 2, 3, 1, 5, 6, 7, 8, 4, 10]", "[0, 10, 2, 3, 1, 5, 6, 7, 8, 9, 4]",
        };
        int[] high = {-900, 101, 102, 103, 104, 105, 106, 107, 108, 109, 110};
        for (int nth = 0; nth < 6; nth++) {
            dueChange(1, -800, fromHigh[nth], nth < 2 ? 7 : 8, put(high, below[nth], 500));
        }
    }

    @Sentence(of = QUEUE_1,
        says = "Then, if the level of i is low, the item at b is compared with that at i, otherwise the one at i with that at b; if it is not less, it ends.")
    static void sinkEndsWhereNotLess() {
        // low: equal keys, the upper item has the lower handle, so the other is not less
        dueChange(0, 9, "[0, 1]", 1, 1, 9);
        dueChange(0, 10, "[1, 0]", 1, 1, 9);
        // high: equal keys, the upper item has the lower handle, so it is less
        dueChange(1, 6, "[0, 1, 2, 3]", 2, 1, 9, 8, 5);
        dueChange(1, 5, "[0, 3, 2, 1]", 2, 1, 9, 8, 5);
    }

    @Sentence(of = QUEUE_1, says = "If b is a child of i, it ends.")
    static void sinkEndsAtChild() {
        // 950 and 951, below 1, are greater than what comes to 1, and yet it ends
        dueChange(0, 900, "[1, 0, 2, 3, 4, 5, 6]", 6, 0, -500, 102, 950, 951, 105, 106);
        dueChange(0, 900, "[2, 1, 0, 3, 4, 5, 6]", 6, 0, 101, -500, 103, 104, 950, 951);
        // from a high position, with -700 below what comes to 3
        dueChange(1, -600, "[0, 3, 2, 1, 4, 5, 6, 7]", 4, -900, 0, 0, 800, 0, 0, 0, -700);
    }

    @Sentence(of = QUEUE_1,
        says = "Otherwise, with p as the parent of b: if the level of i is low, the item at p is compared with that at b, otherwise the one at b with that at p; if it is less, both positions are exchanged. It goes on with sink(b).")
    static void sinkGoesOnAtGrandchild() {
        // low: 0 - 3 - 15, the item between the levels, and then above them
        dueChange(0, 100, "[3, 1, 2, 15, 4, 5, 6, 7, 8, 9, 10, 11, 12, 13, 14, 0]", 11, levelKeys(16));
        dueChange(0, 999, "[3, 0, 2, 15, 4, 5, 6, 1, 8, 9, 10, 11, 12, 13, 14, 7]", 11, levelKeys(16));
        // high: 1 - 7 - 16, where it ends as a child
        dueChange(1, 10, "[0, 7, 2, 3, 4, 5, 6, 16, 8, 9, 10, 11, 12, 13, 14, 15, 1]", 10, levelKeys(17));
        // the parent of b against it: not less, equal keys, less
        dueChange(0, 8, "[3, 1, 2, 0]", 4, 1, 9, 8, 5);
        dueChange(0, 9, "[3, 1, 2, 0]", 4, 1, 9, 8, 5);
        dueChange(0, 10, "[3, 0, 2, 1]", 4, 1, 9, 8, 5);
        dueChange(1, 11, "[0, 7, 2, 3, 4, 5, 6, 1]", 5, 1, 90, 80, 10, 11, 12, 13, 50);
        dueChange(1, 9, "[0, 7, 2, 1, 4, 5, 6, 3]", 5, 1, 90, 80, 10, 11, 12, 13, 50);
    }

    @Sentence(of = QUEUE_1, says = "enter(i): if i is 0, nothing happens.")
    static void enterAtZero() {
        TwoEndQueues q = new TwoEndQueues();
        q.insert(-999);
        dueSteps("the first insert()", q, 1, "[0]", 0);
        dueChange(0, 999, "[0]", 0, 5);
        dueRemove(1, 0, "[1]", 0, 5, 9);
    }

    @Sentence(of = QUEUE_1,
        says = "Otherwise, with p as its parent: if the level of i is low, the item at p is compared with that at i, otherwise the one at i with that at p; if it is less, both positions are exchanged, and rise(p) is done; otherwise rise(i).")
    static void enterAgainstParent() {
        // high, at 1: equal keys, and less by one
        dueRise(1, 0, 1, 1);
        dueRise(1, -1, 0, 1);
        // low, at 15 below 7 with the key 493: less by one, then equal keys (the new item has the greater handle)
        dueRise(15, 492, 15, 2);
        dueRise(15, 493, 7, 2);
        // high, at 7 below 3 with the key 3: equal keys, then less, and on to 0 or not
        dueRise(7, 3, 7, 2);
        dueRise(7, 2, 3, 2);
        dueRise(7, -1, 0, 2);
        // what comes down to i by enter() sinks there: 3 comes to 7, and 15 is below it
        dueChange(7, 2, "[0, 1, 2, 7, 4, 5, 6, 15, 8, 9, 10, 11, 12, 13, 14, 3]", 3, levelKeys(16));
    }

    @Sentence(of = QUEUE_1, says = "To put an item in: it comes to position n; then enter(n).")
    static void putIn() {
        TwoEndQueues q = new TwoEndQueues();
        q.insert(5);
        dueSteps("the first insert()", q, 1, "[0]", 0);
        q.insert(5);
        dueSteps("the second insert()", q, 1, "[0, 1]", 1);
        TwoEndQueues last = laid(1, levelKeys(29));
        last.insert(250);
        due("at(1, 29)", last.at(1, 29), 29);
        due("comparisons(1)", last.comparisons(1), 2);
    }

    @Sentence(of = QUEUE_1, says = "and the last position is gone. If i was the last position, that is all.")
    static void takeOutLast() {
        dueRemove(1, 0, "[]", 0, 5);
        dueRemove(1, 1, "[0]", 0, 5, 9);
        dueRemove(1, 2, "[0, 1]", 0, 5, 9, 8);
        dueRemove(1, 3, "[0, 1, 2]", 0, 9, 5, 8, 7);
    }

    @Sentence(of = QUEUE_1, says = "Otherwise enter(i), and then sink(i).")
    static void takeOutOther() {
        dueRemove(1, 0, "[1]", 0, 5, 9);
        dueRemove(1, 0, "[2, 1]", 1, 1, 9, 8);
        dueRemove(1, 1, "[0, 2]", 1, 1, 9, 8);
        dueRemove(1, 0, "[3, 1, 2]", 2, 1, 9, 8, 5);
        dueRemove(1, 1, "[0, 3, 2]", 1, 1, 9, 8, 5);
        // the last item, 45, is less than the one above the place
        dueRemove(1, 7, "[0, 1, 2, 9, 4, 5, 6, 3, 8]", 2, 0, 90, 91, 50, 4, 5, 6, 60, 61, 45);
    }

    @Sentence(of = QUEUE_1, says = "When the key of the item at position i has changed: enter(i), and then sink(i).")
    static void keyChanged() {
        dueChange(0, 5, "[0]", 0, 5);
        dueChange(1, 9, "[0, 1]", 1, 5, 9);
        dueChange(1, 4, "[1, 0]", 1, 5, 9);
        // the old item of 0 comes to 1 by enter(), and sinks from there: 7 is greater
        dueChange(1, -1, "[1, 7, 2, 3, 4, 5, 6, 0]", 5, 20, 90, 80, 10, 11, 12, 13, 50);
    }

    @Sentence(of = QUEUE_1,
        says = "the items are put in a row in ascending order of their handles; then sink(i) for each position i from n - 1 down to 0")
    static void buildFromTheLastPosition() {
        dueBuild(1, "[]", 0);
        dueBuild(1, "[0]", 0, 5);
        dueBuild(1, "[0, 1]", 1, 5, 5);
        dueBuild(1, "[1, 0]", 1, 5, 4);
        dueBuild(1, "[2, 1, 0]", 2, 9, 5, 1);
        // 1 sinks to 3 first, and comes from there to 0
        dueBuild(1, "[1, 0, 2, 3]", 5, 9, 1, 8, 5);
        TwoEndQueues gaps = with(1, 90, 2, 80, 3, 70, 4);
        gaps.remove(0);
        gaps.remove(3);
        gaps.build();
        // the row is 1, 2, 4, 5, 6 with the keys 90, 2, 3, 70, 4
        dueText("layout 1 of a build() with gaps in the handles", row(gaps, 1), "[2, 1, 4, 5, 6]");
    }

    @Sentence(of = QUEUE_1, says = "The least item is that at position 0.")
    static void least() {
        due("least(1) without items", new TwoEndQueues().least(1), NONE);
        due("least(1) of one", laid(1, 5).least(1), 0);
        due("least(1) by its layout", laid(1, 9, 1, 0).least(1), 0);
    }

    @Sentence(of = QUEUE_1,
        says = "The greatest one is that at position 0 or 1, if there are one or two items; otherwise the item at 1 is compared with that at 2; if it is less, it is the one at 2, otherwise the one at 1.")
    static void greatest() {
        due("greatest(1) without items", new TwoEndQueues().greatest(1), NONE);
        due("greatest(1) of one", laid(1, 5).greatest(1), 0);
        due("greatest(1) of two", laid(1, 5, 9).greatest(1), 1);
        due("greatest(1) of two by the layout", laid(1, 9, 5).greatest(1), 1);
        due("greatest(1) of three, at 1", laid(1, 1, 9, 8).greatest(1), 1);
        due("greatest(1) of three, at 2", laid(1, 1, 8, 9).greatest(1), 2);
        due("greatest(1) of three by the layout", laid(1, 99, 8, 9).greatest(1), 2);
        due("greatest(1) of four by the layout", laid(1, 1, 9, 8, 99).greatest(1), 1);
        TwoEndQueues same = laid(1, 1, 9, 9);
        due("greatest(1) with equal keys, at 2", same.greatest(1), 2);
        same.disturb(1, 1, 2);
        due("greatest(1) with equal keys, at 1", same.greatest(1), 2);
    }

    @Sentence(of = QUEUE_1, says = "(This comparison counts when it is taken out, not when it is only asked for.)")
    static void findingCountsWhenTakenOut() {
        TwoEndQueues three = laid(1, 1, 9, 8);
        three.greatest(1);
        due("comparisons(1) behind greatest(1)", three.comparisons(1), 0);
        due("takeGreatest()", three.takeGreatest(), 1);
        // one to find it, and one by which the last item enters at 1
        due("comparisons(1) behind takeGreatest() of three", three.comparisons(1), 2);
        three.takeGreatest();
        due("comparisons(1) behind takeGreatest() of two", three.comparisons(1), 2);
        three.takeGreatest();
        due("comparisons(1) behind takeGreatest() of one", three.comparisons(1), 2);
    }
}
