import java.util.Arrays;

/** A test for each sentence on queue 0, the interval heap, that names a boundary. */
public final class IntervalBoundaryTests extends Tests {
    private static final String QUEUE_0 = "QUEUE 0, INTERVAL HEAP (layout 0)";

    public static void main(String[] args) {
        runSentences(IntervalBoundaryTests.class);
    }

    private static void dueChange(int position, int key, String wantRow, int wantCount, int... keys) {
        dueChange(0, position, key, wantRow, wantCount, keys);
    }

    private static void dueStill(int n, int position, int wantCount) {
        dueStill(0, position, wantCount, intervalKeys(n));
    }

    private static void dueInsert(int key, String wantRow, int wantCount, int... keys) {
        TwoEndQueues q = laid(0, keys);
        q.insert(key);
        dueSteps("insert(" + key + ") behind " + keys.length, q, 0, wantRow, wantCount);
    }

    private static void dueRise(int n, int key, int want, int wantCount) {
        dueRise(0, key, want, wantCount, intervalKeys(n));
    }

    @Sentence(of = QUEUE_0, says = "All nodes have both, only the last one may have a low position alone.")
    static void lastNodeMayBeLowAlone() {
        // with both positions order() compares three times more than with a low position alone
        dueStill(30, 28, 5);
        dueStill(29, 28, 2);
        dueStill(4, 2, 5);
        dueStill(3, 2, 2);
        dueStill(2, 0, 3);
        dueStill(1, 0, 0);
    }

    @Sentence(of = QUEUE_0, says = "The parent of node k, for k above 0, is node (k - 1) / 2, rounded down")
    static void parentOfNode() {
        int[] want = {0, 1, 1, 2, 2};
        for (int n = 26; n <= 30; n++) {
            // the low item of node 6 is greater than those of its children, the nodes 13 and 14
            int[] keys = put(put(put(intervalKeys(30), 12, 50), 26, 40), 28, 41);
            int[] first = Arrays.copyOf(keys, n);
            due("violations(0) with " + n + " items", laid(0, first).violations(0), want[n - 26]);
        }
        // node 0 has no parent: nothing is compared with it
        dueInsert(-5, "[1, 0]", 1, 3);
        dueInsert(5, "[0, 1]", 1, 3);
    }

    @Sentence(of = QUEUE_0, says = "its children are the nodes 2k + 1 and 2k + 2, as far as they exist")
    static void childrenOfNode() {
        // node 0: each child is one comparison more in sinkLow and one in sinkHigh
        int[] ofNode0 = {0, 3, 5, 5, 7, 7, 7};
        for (int n = 1; n <= 7; n++) {
            dueStill(n, 0, ofNode0[n - 1]);
        }
        // node 1 has the children 3 and 4, from the positions 6 and 8 on
        int[] ofNode1 = {5, 7, 7, 9, 9, 9};
        for (int n = 6; n <= 11; n++) {
            dueStill(n, 2, ofNode1[n - 6]);
        }
        // node 2 has the children 5 and 6, from the positions 10 and 12 on
        int[] ofNode2 = {5, 7, 7, 9, 9, 9};
        for (int n = 10; n <= 15; n++) {
            dueStill(n, 4, ofNode2[n - 10]);
        }
        // node 6 has the children 13 and 14, from the positions 26 and 28 on; node 7 has none
        int[] ofNode6 = {5, 7, 7, 9, 9};
        for (int n = 26; n <= 30; n++) {
            dueStill(n, 12, ofNode6[n - 26]);
            dueStill(n, 14, 5);
        }
    }

    @Sentence(of = QUEUE_0, says = "The top of a node is its high position, or, if it has none, its low position.")
    static void topOfNode() {
        due("greatest(0) of one", laid(0, 5).greatest(0), 0);
        due("greatest(0) of two", laid(0, 5, 9).greatest(0), 1);
        // riseHigh(1, top) with the low position alone: the item there is greater than the high one of node 0
        dueChange(2, 20, "[0, 2, 1]", 2, 1, 9, 5);
        // sinkHigh(0) with a low position alone as the top of the first child
        dueChange(1, 4, "[0, 2, 1]", 5, 1, 9, 5);
        // and of the second child
        dueChange(1, 5, "[0, 4, 2, 3, 1]", 7, 1, 9, 2, 4, 7);
    }

    @Sentence(of = QUEUE_0,
        says = "if node k has a high position, the item there is compared with that at low; if it is less, both positions are exchanged")
    static void orderOfNode() {
        dueChange(0, 9, "[0]", 0, 5);
        dueChange(0, 5, "[1, 0]", 3, 5, 3);
        dueChange(1, 6, "[0, 1]", 3, 5, 3);
        dueChange(0, 3, "[0, 1]", 3, 5, 3);
        TwoEndQueues q = laid(0, 5, 3);
        q.disturb(0, 0, 1);
        q.change(0, 3);
        dueSteps("equal keys, the high one with the lower handle", q, 0, "[0, 1]", 3);
    }

    @Sentence(of = QUEUE_0,
        says = "riseLow(k): as long as k is above 0: the item at the low position of k is compared with that at the low position of its parent")
    static void riseLowUpToNode0() {
        // n = 28: the first comparison is with the low position of the parent, then 14 - 6 - 2 - 0
        dueRise(28, -999, 0, 4);
        dueRise(29, -999, 0, 4);
        dueRise(2, -999, 0, 2);
        dueRise(1, -999, 0, 1);
    }

    @Sentence(of = QUEUE_0, says = "and it goes on with the parent in place of k; otherwise it ends")
    static void riseLowEndsEarly() {
        // the low keys above node 14 are 12, 4 and 0
        dueRise(28, 5, 12, 3);
        dueRise(28, 4, 12, 3);
        dueRise(28, 3, 4, 4);
        dueRise(28, 11, 12, 3);
        dueRise(28, 12, 28, 2);
    }

    @Sentence(of = QUEUE_0,
        says = "riseHigh(k, i), where i is a position of node k: as long as k is above 0: the item at the high position of its parent is compared with that at i")
    static void riseHighUpToNode0() {
        // from a low position alone, and from a high position
        dueRise(28, 999, 1, 4);
        dueRise(29, 999, 1, 4);
        dueRise(2, 999, 1, 2);
        dueRise(3, 999, 1, 2);
        dueRise(1, 999, 1, 1);
    }

    @Sentence(of = QUEUE_0, says = "and it goes on with the parent and its high position; otherwise it ends")
    static void riseHighEndsEarly() {
        // the high keys above node 14 are 487, 495 and 499; of equal keys the new item has the greater handle
        dueRise(28, 486, 28, 2);
        dueRise(28, 487, 13, 3);
        dueRise(28, 494, 13, 3);
        dueRise(28, 495, 5, 4);
        dueRise(28, 498, 5, 4);
        dueRise(29, 486, 29, 2);
        dueRise(29, 488, 13, 3);
    }

    @Sentence(of = QUEUE_0, says = "sinkLow(k): first order(k). If k has no children, it ends.")
    static void sinkLowWithoutChildren() {
        dueChange(0, 20, "[1, 0]", 3, 1, 9);
        // the new item sinks to node 1, which has no children and has to be ordered there
        dueChange(0, 100, "[2, 0, 3, 1, 4, 5]", 8, 1, 9, 2, 8, 3, 7);
    }

    @Sentence(of = QUEUE_0,
        says = "if there is a second one, the item at its low position is compared with that at the low position of the first one; if it is less, c is the second one")
    static void sinkLowChoosesChild() {
        // one child: it is not compared with another
        dueChange(0, 6, "[2, 1, 0]", 5, 1, 9, 5);
        dueChange(0, 6, "[2, 1, 0, 3]", 6, 1, 9, 5, 8);
        // two: the first, the second, and with equal keys the one with the lower handle
        dueChange(0, 5, "[2, 1, 0, 3, 4, 5]", 8, 1, 9, 2, 8, 3, 7);
        dueChange(0, 5, "[4, 1, 2, 3, 0, 5]", 8, 1, 9, 3, 8, 2, 7);
        dueChange(0, 5, "[2, 1, 0, 3, 4, 5]", 8, 1, 9, 2, 8, 2, 7);
        // the second one with a low position alone
        dueChange(0, 4, "[4, 1, 2, 3, 0]", 7, 1, 9, 5, 8, 3);
    }

    @Sentence(of = QUEUE_0,
        says = "Then the item at the low position of c is compared with that at the low position of k; if it is less, both positions are exchanged, and it goes on with sinkLow(c); otherwise it ends.")
    static void sinkLowGoesOn() {
        // equal keys: the item at node 0 has the lower handle and stays
        dueChange(0, 2, "[0, 1, 2, 3]", 5, 1, 9, 2, 8);
        dueChange(0, 3, "[2, 1, 0, 3]", 6, 1, 9, 2, 8);
        // two nodes down, to node 3, which has a low position alone
        dueChange(0, 7, "[2, 1, 6, 3, 4, 5, 0]", 9, 0, 99, 2, 98, 4, 96, 6);
        // one node down, where the child is not less
        dueChange(0, 5, "[2, 1, 0, 3, 4, 5, 6]", 9, 0, 99, 2, 98, 4, 96, 6);
    }

    @Sentence(of = QUEUE_0, says = "sinkHigh(k): first order(k). If k has no children, it ends.")
    static void sinkHighWithoutChildren() {
        dueChange(1, 0, "[1, 0]", 3, 1, 9);
        // the item 5 sinks to the top of node 1, below the low item 6, and is ordered there
        dueChange(1, 5, "[0, 3, 1, 2]", 6, 1, 9, 6, 8);
    }

    @Sentence(of = QUEUE_0,
        says = "if there is a second one, the item at the top of the first one is compared with that at the top of the second one; if it is less, c is the second one")
    static void sinkHighChoosesChild() {
        // one child
        dueChange(1, 6, "[0, 3, 2, 1]", 6, 1, 9, 2, 8);
        // two: the first, the second, and with equal keys the one with the greater handle
        dueChange(1, 5, "[0, 3, 2, 1, 4, 5]", 8, 1, 9, 2, 8, 3, 7);
        dueChange(1, 5, "[0, 5, 2, 3, 4, 1]", 8, 1, 9, 2, 7, 3, 8);
        dueChange(1, 5, "[0, 5, 2, 3, 4, 1]", 8, 1, 9, 2, 8, 3, 8);
        // the second one with a low position alone, which is not the greater top
        dueChange(1, 5, "[0, 3, 2, 1, 4]", 8, 1, 9, 2, 8, 3);
    }

    @Sentence(of = QUEUE_0,
        says = "Then the item at the top of k is compared with that at the top of c; if it is less, both positions are exchanged, and it goes on with sinkHigh(c); otherwise it ends.")
    static void sinkHighGoesOn() {
        // greater by one, and equal keys: the item at the top of node 0 has the lower handle and is less
        dueChange(1, 9, "[0, 1, 2, 3]", 5, 1, 20, 2, 8);
        dueChange(1, 8, "[0, 3, 2, 1]", 6, 1, 20, 2, 8);
        // two nodes down, to node 3 with a low position alone
        dueChange(1, 50, "[0, 3, 2, 6, 4, 5, 1]", 9, 0, 99, 2, 98, 4, 96, 60);
        // one node down, where the top of the child is not greater
        dueChange(1, 70, "[0, 3, 2, 1, 4, 5, 6]", 9, 0, 99, 2, 98, 4, 96, 60);
    }

    @Sentence(of = QUEUE_0, says = "it comes to position n (n counted before). If n is 0, that is all.")
    static void putInFirst() {
        TwoEndQueues q = new TwoEndQueues();
        q.insert(-999);
        dueSteps("the first insert()", q, 0, "[0]", 0);
        dueInsert(5, "[0, 1, 2]", 2, 1, 9);
    }

    @Sentence(of = QUEUE_0,
        says = "If n is odd, k is its node: it is compared with the item at the low position of k; if it is less, both positions are exchanged and riseLow(k) is done, otherwise riseHigh(k, n).")
    static void putInOdd() {
        dueInsert(0, "[1, 0]", 1, 1);
        dueInsert(2, "[0, 1]", 1, 1);
        // n = 3: below the low item of its node, and then not, or also, below that of node 0
        dueInsert(4, "[0, 1, 3, 2]", 2, 1, 9, 5);
        dueInsert(0, "[3, 1, 0, 2]", 2, 1, 9, 5);
        // not below it, and then not, or also, above the high item of node 0
        dueInsert(5, "[0, 1, 2, 3]", 2, 1, 9, 5);
        dueInsert(9, "[0, 3, 2, 1]", 2, 1, 9, 5);
        dueRise(29, 27, 28, 2);
    }

    @Sentence(of = QUEUE_0,
        says = "If n is even (and above 0), k is its node: it is compared with the item at the low position of the parent of k; if it is less, riseLow(k) is done, otherwise riseHigh(k, n).")
    static void putInEven() {
        dueInsert(0, "[2, 1, 0]", 2, 1, 9);
        dueInsert(1, "[0, 1, 2]", 2, 1, 9);
        dueInsert(8, "[0, 1, 2]", 2, 1, 9);
        dueInsert(9, "[0, 2, 1]", 2, 1, 9);
        // n = 4: node 2, whose parent is node 0 too
        dueInsert(0, "[4, 1, 2, 3, 0]", 2, 1, 9, 5, 6);
        dueInsert(3, "[0, 1, 2, 3, 4]", 2, 1, 9, 5, 6);
        // node 0 upside down: it is the low position, not the high one, that tells which way to go
        dueInsert(5, "[2, 1, 0]", 2, 9, 1);
    }

    @Sentence(of = QUEUE_0, says = "and the last position is gone. If i was the last position, that is all.")
    static void takeOutLast() {
        dueRemove(0, 0, "[]", 0, 5);
        dueRemove(0, 1, "[0]", 0, 5, 9);
        dueRemove(0, 2, "[0, 1]", 0, 5, 9, 7);
        dueRemove(0, 3, "[0, 1, 2]", 0, 5, 9, 7, 8);
        // a node that is upside down stays so
        dueRemove(0, 2, "[0, 1]", 0, 9, 5, 7);
    }

    @Sentence(of = QUEUE_0,
        says = "Otherwise, with k as the node of i: order(k), riseLow(k), riseHigh(k, top of k), sinkLow(k), sinkHigh(k), in this order (the top of k being the position described above).")
    static void takeOutOther() {
        dueRemove(0, 0, "[1]", 0, 5, 9);
        dueRemove(0, 0, "[2, 1]", 3, 1, 9, 5);
        dueRemove(0, 1, "[0, 2]", 3, 1, 9, 5);
        // node 1 loses its high position: the item that comes to its low position is its top
        dueRemove(0, 2, "[0, 1, 3]", 2, 1, 9, 3, 7);
        dueRemove(0, 2, "[0, 3, 1]", 2, 1, 9, 3, 10);
        // the last item, 7, is less than the low one at the place: order, then riseLow from node 3
        dueRemove(0, 7, "[0, 1, 8, 3, 4, 5, 2, 6]", 6, 0, 99, 50, 98, 4, 96, 60, 70, 7);
    }

    @Sentence(of = QUEUE_0, says = "When the key of the item at position i has changed: the same five steps for its node.")
    static void keyChanged() {
        dueChange(0, 7, "[0]", 0, 5);
        // at the high position, and with the same key
        dueChange(3, 8, "[0, 1, 2, 3, 4, 5]", 5, 1, 9, 2, 8, 3, 7);
        dueChange(3, 0, "[3, 1, 0, 2, 4, 5]", 5, 1, 9, 2, 8, 3, 7);
        dueChange(2, 99, "[0, 2, 3, 1, 4, 5]", 5, 1, 9, 2, 8, 3, 7);
        // node 0 upside down: 5 goes to its low position first, and 9, which comes down, to its high one
        dueChange(2, 5, "[2, 0, 1]", 2, 9, 1, 7);
        // a rise from node 1 brings the old item of node 0 to node 1, where it sinks on
        dueChange(2, -1, "[2, 1, 6, 3, 4, 5, 0]", 7, 50, 99, 51, 98, 4, 96, 6);
    }

    @Sentence(of = QUEUE_0,
        says = "the items are put in a row in ascending order of their handles; then, for each node k from the last one down to 0: sinkLow(k), sinkHigh(k)")
    static void buildFromTheLastNode() {
        dueBuild(0, "[]", 0);
        dueBuild(0, "[0]", 0, 5);
        dueBuild(0, "[0, 1]", 2, 5, 5);
        dueBuild(0, "[1, 0]", 2, 5, 4);
        dueBuild(0, "[0, 1, 2]", 4, 1, 9, 5);
        dueBuild(0, "[2, 0, 1]", 4, 9, 5, 1);
        // node 1 is ordered before node 0 looks at it: its low item is then 0, which comes to position 0
        dueBuild(0, "[3, 1, 0, 2]", 7, 1, 9, 8, 0);
        TwoEndQueues gaps = with(1, 90, 2, 80, 3, 70, 4);
        gaps.remove(0);
        gaps.remove(3);
        gaps.build();
        // the row is 1, 2, 4, 5, 6 with the keys 90, 2, 3, 70, 4
        dueText("layout 0 of a build() with gaps in the handles", row(gaps, 0), "[2, 1, 4, 5, 6]");
    }

    @Sentence(of = QUEUE_0, says = "The least item is that at position 0, the greatest one that at the top of node 0.")
    static void ends() {
        due("least(0) without items", new TwoEndQueues().least(0), NONE);
        due("greatest(0) without items", new TwoEndQueues().greatest(0), NONE);
        due("least(0) of one", laid(0, 5).least(0), 0);
        due("greatest(0) of one", laid(0, 5).greatest(0), 0);
        // upside down: the layout says which
        due("least(0) of 9 1 | 0", laid(0, 9, 1, 0).least(0), 0);
        due("greatest(0) of 9 1 | 10", laid(0, 9, 1, 10).greatest(0), 1);
        TwoEndQueues q = laid(0, 9, 1, 10);
        due("takeLeast()", q.takeLeast(), 0);
        TwoEndQueues other = laid(0, 9, 1, 10);
        due("takeGreatest()", other.takeGreatest(), 1);
    }
}
