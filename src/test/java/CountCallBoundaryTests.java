import java.math.BigInteger;
import java.util.ArrayList;
import java.util.List;

/** A test for each sentence of the promises 24 to 34 that names a boundary. */
public final class CountCallBoundaryTests extends Tests {
    private static final String COMPARISONS = "Promise 24: comparisons";
    private static final String FORGET = "Promise 25: forget";
    private static final String WOULD_NEED = "Promise 26: wouldNeed";
    private static final String SORTING_NEEDS = "Promise 27: sortingNeeds";
    private static final String FEWEST = "Promise 28: fewest";
    private static final String TYPE = "Promise 29: type";
    private static final String CLEAR_TEXT = "Promise 30: clearText";
    private static final String FAULT = "Promise 31: fault";
    private static final String RUN = "Promise 32: run";
    private static final String UNDO = "Promise 33: undo";
    private static final String CHECKSUM = "Promise 34: checksum";

    public static void main(String[] args) {
        runSentences(CountCallBoundaryTests.class);
    }

    /** In queue 0 the item 2 passes for the least one, and 0 for the greatest; the other queues are right. */
    private static TwoEndQueues upsideDown() {
        TwoEndQueues q = with(1, 5, 9);
        lay(q, 0, 2, 0, 1);
        return q;
    }

    @Sentence(of = COMPARISONS, says = "Returns how many comparisons have been counted in a queue.")
    static void comparisons() {
        dueText("the counts of a new object", counts(new TwoEndQueues()), "0,0,0");
        dueText("the counts of one item", counts(with(5)), "0,0,0");
        dueText("the counts of three items", counts(with(5, 3, 4)), "3,2,4");
    }

    @Sentence(of = COMPARISONS, says = "Throws `IllegalArgumentException` if there is no such queue")
    static void comparisonsOfNoQueue() {
        TwoEndQueues q = with(5, 3);
        dueThrows(q, "comparisons()", ARGUMENT, q::comparisons, NO_QUEUES);
    }

    @Sentence(of = FORGET, says = "Sets all three counts to 0.")
    static void forgetSetsToZero() {
        TwoEndQueues q = with(5, 3, 4);
        q.forget();
        dueText("the counts", counts(q), "0,0,0");
        q.forget();
        dueText("the counts", counts(q), "0,0,0");
        due("size()", q.size(), 3);
    }

    @Sentence(of = FORGET, says = "Returns the sum that they had.")
    static void forgetReturnsSum() {
        due("forget() of a new object", new TwoEndQueues().forget(), 0);
        TwoEndQueues q = with(5, 3, 4);
        due("forget()", q.forget(), 3 + 2 + 4);
        due("forget() again", q.forget(), 0);
    }

    @Sentence(of = WOULD_NEED, says = "(for takeLeast() and takeGreatest() with the item of queue 0, as there)")
    static void wouldNeedWithTheItemOfQueue0() {
        TwoEndQueues q = upsideDown();
        // the item 2 is the last of layouts 1 and 2, and the first of layout 3
        due("wouldNeed(1, 1, 0)", q.wouldNeed(1, 1, 0), 0);
        due("wouldNeed(2, 1, 0)", q.wouldNeed(2, 1, 0), 1);
        // the item 0 is the first of layouts 1 and 2; queue 1 has one more to find its greatest
        due("wouldNeed(1, 2, 0)", q.wouldNeed(1, 2, 0), 2);
        due("wouldNeed(2, 2, 0)", q.wouldNeed(2, 2, 0), 2);
        TwoEndQueues two = with(1, 5);
        due("wouldNeed(1, 2, 0) with two items", two.wouldNeed(1, 2, 0), 0);
    }

    @Sentence(of = WOULD_NEED, says = "nothing changes")
    static void wouldNeedChangesNothing() {
        TwoEndQueues q = full();
        q.takeLeast();
        typeAll(q, "b;");
        String before = trace(q);
        for (int queue = 0; queue < 3; queue++) {
            for (int what = 0; what < 5; what++) {
                q.wouldNeed(queue, what, 7);
                q.wouldNeed(queue, what, -5000);
            }
        }
        dueSame(q, "wouldNeed()", before);
        due("undo()", q.undo(), 1);
        due("size()", q.size(), 30);
    }

    @Sentence(of = WOULD_NEED, says = "the key for 0, the handle for 3 (without effect for others)")
    static void wouldNeedArgument() {
        TwoEndQueues q = with(5, 3, 4);
        for (int argument : new int[] {MIN, -1000, -1, 0, 2, 30, 1000, MAX}) {
            due("wouldNeed(0, 1, " + argument + ")", q.wouldNeed(0, 1, argument), 3);
            due("wouldNeed(1, 2, " + argument + ")", q.wouldNeed(1, 2, argument), 2);
            due("wouldNeed(2, 4, " + argument + ")", q.wouldNeed(2, 4, argument), 4);
        }
        due("wouldNeed(0, 0, -999)", q.wouldNeed(0, 0, -999), 2);
        due("wouldNeed(0, 0, 999)", q.wouldNeed(0, 0, 999), 2);
        // the item 2 is the last one of layout 0, the item 1 the first one
        due("wouldNeed(0, 3, 2)", q.wouldNeed(0, 3, 2), 0);
        due("wouldNeed(0, 3, 1)", q.wouldNeed(0, 3, 1), 3);
    }

    @Sentence(of = WOULD_NEED, says = "Returns how many; NONE if the call would throw an exception.")
    static void wouldNeedOrNone() {
        TwoEndQueues empty = new TwoEndQueues();
        for (int queue = 0; queue < 3; queue++) {
            due("the first insert(-999)", empty.wouldNeed(queue, 0, -999), 0);
            due("the first insert(999)", empty.wouldNeed(queue, 0, 999), 0);
            for (int key : new int[] {MIN, -1000, 1000, MAX}) {
                due("insert(" + key + ")", empty.wouldNeed(queue, 0, key), NONE);
            }
            due("takeLeast() without items", empty.wouldNeed(queue, 1, 0), NONE);
            due("takeGreatest() without items", empty.wouldNeed(queue, 2, 0), NONE);
            due("remove(0) without items", empty.wouldNeed(queue, 3, 0), NONE);
            due("build() without items", empty.wouldNeed(queue, 4, 0), 0);
        }
        TwoEndQueues q = full();
        for (int queue = 0; queue < 3; queue++) {
            due("insert(0) with 30 items", q.wouldNeed(queue, 0, 0), NONE);
            for (int handle : new int[] {MIN, -1, 30, 31, 32, MAX}) {
                due("remove(" + handle + ")", q.wouldNeed(queue, 3, handle), NONE);
            }
            due("remove(29) is possible", q.wouldNeed(queue, 3, 29) >= 0 ? 1 : 0, 1);
        }
    }

    @Sentence(of = WOULD_NEED, says = "Throws `IllegalArgumentException` if there is no such queue, or what is not 0 to 4")
    static void wouldNeedOutOfRange() {
        TwoEndQueues q = full();
        dueThrows(q, "wouldNeed(queue, 4, 0)", ARGUMENT, queue -> q.wouldNeed(queue, 4, 0), NO_QUEUES);
        dueThrows(q, "wouldNeed(queue, 0, 1000)", ARGUMENT, queue -> q.wouldNeed(queue, 0, 1000), NO_QUEUES);
        dueThrows(q, "wouldNeed(2, what, 0)", ARGUMENT, what -> q.wouldNeed(2, what, 0), MIN, -1, 5, 6, MAX);
    }

    @Sentence(of = SORTING_NEEDS, says = "(that at position 0 of its layout, of layout 2 for queue 2, whose layouts both count)")
    static void sortingByItsLayout() {
        // the least item is the last of layout 0; taking out what is at 0 needs three comparisons
        due("sortingNeeds(0)", laid(0, 5, 9, 1).sortingNeeds(0), 3);
        due("sortingNeeds(1)", laid(1, 5, 9, 1).sortingNeeds(1), 1);
        TwoEndQueues q = with(5, 3, 4);
        due("sortingNeeds(2), one in each layout", q.sortingNeeds(2), 2);
        // layout 2 is 0, 1, 2 and layout 3 is 0, 1, 2: 0 goes first, with one comparison in each
        TwoEndQueues disturbed = laid(2, 5, 3, 4);
        lay(disturbed, 3, 0, 1, 2);
        due("sortingNeeds(2) in disturbed layouts", disturbed.sortingNeeds(2), 2);
        // layout 3 is 1, 2, 0: 0 is the last one there
        lay(disturbed, 3, 1, 2, 0);
        due("sortingNeeds(2) with 0 as the last of layout 3", disturbed.sortingNeeds(2), 1);
    }

    @Sentence(of = SORTING_NEEDS, says = "again and again, until none is left")
    static void sortingUntilNoneIsLeft() {
        for (int n = 0; n <= 30; n++) {
            TwoEndQueues q = new TwoEndQueues();
            if (n > 0) {
                q.fill(n, n);
            }
            String needs = q.sortingNeeds(0) + "," + q.sortingNeeds(1) + "," + q.sortingNeeds(2);
            q.forget();
            for (int taken = 0; taken < n; taken++) {
                q.takeLeast();
            }
            dueText("sortingNeeds() of " + n, needs, counts(q));
        }
        due("sortingNeeds(0) without items", new TwoEndQueues().sortingNeeds(0), 0);
    }

    @Sentence(of = SORTING_NEEDS, says = "nothing changes")
    static void sortingChangesNothing() {
        TwoEndQueues q = full();
        String before = trace(q);
        for (int queue = 0; queue < 3; queue++) {
            q.sortingNeeds(queue);
        }
        dueSame(q, "sortingNeeds()", before);
        due("undo()", q.undo(), 0);
    }

    @Sentence(of = SORTING_NEEDS, says = "Throws `IllegalArgumentException` if there is no such queue")
    static void sortingOfNoQueue() {
        TwoEndQueues q = with(5, 3, 4);
        dueThrows(q, "sortingNeeds()", ARGUMENT, q::sortingNeeds, NO_QUEUES);
        TwoEndQueues empty = new TwoEndQueues();
        dueThrows(empty, "sortingNeeds() without items", ARGUMENT, empty::sortingNeeds, NO_QUEUES);
    }

    private static void dueFewest(TwoEndQueues q, String wantCounts, int want) {
        dueText("the counts", counts(q), wantCounts);
        due("fewest() of " + wantCounts, q.fewest(), want);
    }

    /** The item stands where a change to its key needs two comparisons in queue 2, and six or more in queue 1. */
    private static TwoEndQueues changedWithEase(int handle, int third) {
        int[] keys = intervalKeys(7);
        TwoEndQueues q = laid(0, keys);
        lay(q, 1, handle);
        lay(q, 2, 0, 2, 4, handle);
        lay(q, 3, 1, 3, third, handle);
        q.forget();
        q.change(handle, keys[handle]);
        return q;
    }

    @Sentence(of = FEWEST, says = "of several the lowest one")
    static void fewestOfSeveral() {
        dueFewest(new TwoEndQueues(), "0,0,0", 0);
        dueFewest(with(5, 3), "1,1,2", 0);
        dueFewest(with(5, 3, 4), "3,2,4", 1);
        TwoEndQueues lastTwo = with(5, 3, 4);
        lastTwo.forget();
        lastTwo.takeGreatest();
        dueFewest(lastTwo, "3,2,2", 1);
        // 6 is alone at the end of layout 0, 5 is in a node with both positions
        TwoEndQueues firstAndLast = changedWithEase(6, 5);
        due("comparisons(0)", firstAndLast.comparisons(0), 2);
        due("comparisons(2)", firstAndLast.comparisons(2), 2);
        due("comparisons(1) is more", firstAndLast.comparisons(1) > 2 ? 1 : 0, 1);
        due("fewest() of queues 0 and 2", firstAndLast.fewest(), 0);
        TwoEndQueues last = changedWithEase(5, 6);
        due("comparisons(0)", last.comparisons(0), 5);
        due("comparisons(2)", last.comparisons(2), 2);
        due("fewest() of queue 2 alone", last.fewest(), 2);
    }

    @Sentence(of = TYPE, says = "Returns the length of the text then.")
    static void typeReturnsLength() {
        TwoEndQueues q = new TwoEndQueues();
        for (int length = 1; length <= 120; length++) {
            due("type(65)", q.type(65), length);
        }
    }

    @Sentence(of = TYPE, says = "Throws `IllegalArgumentException` if c is out of range")
    static void typeOutOfRange() {
        TwoEndQueues q = new TwoEndQueues();
        dueThrows(q, "type()", ARGUMENT, q::type, MIN, -1, 0, 31, 127, 128, 255, 256 + 65, 65536 + 65, MAX);
        due("type(32)", q.type(32), 1);
        due("type(126)", q.type(126), 2);
    }

    @Sentence(of = TYPE, says = "Throws `IllegalStateException` if the text has 120 characters")
    static void typeBeyond120() {
        TwoEndQueues q = typed("b;".repeat(60));
        dueThrows(q, "type()", STATE, q::type, 32, 'b', 126);
        q.clearText();
        due("type() behind clearText()", q.type('b'), 1);
    }

    @Sentence(of = CLEAR_TEXT, says = "Returns the length that it had.")
    static void clearTextReturnsLength() {
        TwoEndQueues q = new TwoEndQueues();
        due("clearText() of no text", q.clearText(), 0);
        typeAll(q, "x");
        due("clearText() of one character", q.clearText(), 1);
        due("clearText() again", q.clearText(), 0);
        typeAll(q, "b;".repeat(60));
        due("clearText() of 120 characters", q.clearText(), 120);
        due("fault()", q.fault(), NONE);
        due("run()", q.run(), 0);
    }

    @Sentence(of = FAULT, says = "Returns the fault, an index from 0; NONE if the text is a script.")
    static void faultOrNone() {
        due("fault() of no text", new TwoEndQueues().fault(), NONE);
        due("fault() of x", typed("x").fault(), 0);
        due("fault() of b", typed("b").fault(), 1);
        TwoEndQueues q = typed("b;");
        due("fault() of b;", q.fault(), NONE);
        q.type('b');
        due("fault() of b;b", q.fault(), 3);
        due("fault() again", q.fault(), 3);
        due("fault() of 120 characters", typed("b;".repeat(60)).fault(), NONE);
        due("fault() at the last of 120 characters", typed("b;".repeat(59) + "bx").fault(), 119);
        due("fault() behind the last of 120 characters", typed("b;".repeat(58) + "i123").fault(), 120);
    }

    @Sentence(of = RUN, says = "Carries out the script of the text, which stays.")
    static void runKeepsTheText() {
        TwoEndQueues q = typed("i5;");
        for (int size = 1; size <= 30; size++) {
            due("run()", q.run(), 1);
            due("size()", q.size(), size);
        }
        due("run() with 30 items", q.run(), 0);
        due("clearText()", q.clearText(), 3);
    }

    @Sentence(of = RUN, says = "A command whose call would throw an exception is skipped.")
    static void runSkips() {
        TwoEndQueues q = typed("l;g;r0;c0,1;i5;r1;c1,9;r30;c32,9;b;");
        due("run()", q.run(), 2);
        dueText("the queues", queues(q), "0:5 |[0]|[0]|[0]|[0]|0,0,0");
        TwoEndQueues full = new TwoEndQueues();
        full.fill(29, 1);
        typeAll(full, "i999;i998;i-999;g;i997;i996;");
        due("run() with 29 items", full.run(), 3);
        due("size()", full.size(), 30);
        due("key(29)", full.key(29), 997);
    }

    @Sentence(of = RUN, says = "All of it is one undoable change (also if all commands are skipped, or there are none).")
    static void runIsOneChange() {
        TwoEndQueues q = with(7);
        String before = queues(q);
        typeAll(q, "i1;i2;l;g;b;r2;");
        due("run()", q.run(), 6);
        due("undo()", q.undo(), 1);
        dueText("the queues", queues(q), before);
        q.clearText();
        typeAll(q, "r9;r8;");
        due("run() with all skipped", q.run(), 0);
        due("undo() of it", q.undo(), 1);
        q.clearText();
        due("run() of none", q.run(), 0);
        due("undo() of it", q.undo(), 1);
    }

    @Sentence(of = RUN, says = "Returns the number of commands that were not skipped.")
    static void runReturnsNumber() {
        due("run() of none", new TwoEndQueues().run(), 0);
        due("run() of b;", typed("b;").run(), 1);
        due("run() of l;", typed("l;").run(), 0);
        due("run() of l;b;l;", typed("l;b;l;").run(), 1);
        due("run() of 60 commands", typed("b;".repeat(60)).run(), 60);
        due("run() of 40 commands for 30 items", typed("i1;".repeat(40)).run(), 30);
    }

    @Sentence(of = RUN, says = "Throws `IllegalArgumentException` if the text has a fault")
    static void runWithFault() {
        for (String text : new String[] {"x", "b", "i5;b", "i5;i1234;", "i5;b;x", "b;".repeat(58) + "i123"}) {
            TwoEndQueues q = typed(text);
            dueThrow(q, "run() of " + text, ARGUMENT, q::run);
            due("size()", q.size(), 0);
        }
    }

    @Sentence(of = UNDO, says = "Returns how many records are left.")
    static void undoReturnsWhatIsLeft() {
        due("undo() of one", with(1).undo(), 0);
        due("undo() of five", with(1, 2, 3, 4, 5).undo(), 4);
        due("undo() of six", with(1, 2, 3, 4, 5, 6).undo(), 4);
    }

    @Sentence(of = UNDO, says = "Throws `IllegalStateException` if there is none")
    static void undoOfNone() {
        TwoEndQueues q = new TwoEndQueues();
        dueThrow(q, "undo() of a new object", STATE, q::undo);
        typeAll(q, "b;");
        q.size();
        q.wouldNeed(0, 4, 0);
        dueThrow(q, "undo() behind calls that are not undoable", STATE, q::undo);
        q.insert(1);
        q.undo();
        dueThrow(q, "undo() again", STATE, q::undo);
        TwoEndQueues six = with(1, 2, 3, 4, 5, 6);
        for (int times = 0; times < 5; times++) {
            six.undo();
        }
        dueThrow(six, "undo() for the sixth time", STATE, six::undo);
        due("size()", six.size(), 1);
    }

    /** The numbers in the order of the document, added up without a bound and then cut to 64 bits. */
    private static long checksumOf(TwoEndQueues q, int textLength, int records) {
        List<Integer> numbers = new ArrayList<>(List.of(q.size(), q.handles()));
        for (int handle = 0; handle < 30; handle++) {
            if ((q.handles() >> handle & 1) == 1) {
                numbers.add(q.key(handle));
            }
        }
        for (int layout = 0; layout < 4; layout++) {
            for (int position = 0; position < q.size(); position++) {
                numbers.add(q.at(layout, position));
            }
            numbers.add(q.violations(layout));
        }
        numbers.addAll(List.of(q.comparisons(0), q.comparisons(1), q.comparisons(2), textLength, records));
        BigInteger h = BigInteger.valueOf(18601);
        for (int v : numbers) {
            h = h.multiply(BigInteger.valueOf(31)).add(BigInteger.valueOf(v));
        }
        return h.longValue();
    }

    @Sentence(of = CHECKSUM, says = "h becomes 31 * h + v (long arithmetic that wraps)")
    static void checksumWraps() {
        TwoEndQueues empty = new TwoEndQueues();
        due("checksum() of a new object", empty.checksum(), checksumOf(empty, 0, 0));
        TwoEndQueues q = full();
        due("checksum() of 30 items", q.checksum(), checksumOf(q, 0, 1));
        TwoEndQueues negative = with(-999, -999, -999);
        typeAll(negative, "b;".repeat(60));
        due("checksum() of negative keys, and 120 characters", negative.checksum(), checksumOf(negative, 120, 3));
    }

    @Sentence(of = CHECKSUM,
        says = "size(); handles(); for each item, in ascending order of the handles, its key; for each layout the handles in it, position by position, and its violations; the comparisons of each queue; the length of the text; the number of records.")
    static void checksumNumbers() {
        TwoEndQueues q = with(7, 8, 9, 10, 11, 12, 13);
        q.remove(0);
        q.remove(3);
        q.disturb(0, 0, 4);
        q.disturb(1, 1, 2);
        q.disturb(2, 0, 1);
        q.disturb(3, 0, 3);
        typeAll(q, "b;x");
        due("checksum() with gaps, violations, text and five records", q.checksum(), checksumOf(q, 3, 5));
        q.undo();
        q.clearText();
        due("checksum() with four records and no text", q.checksum(), checksumOf(q, 0, 4));
    }
}
