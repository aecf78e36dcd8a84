/** A test for each sentence on items, layouts and their rules that names a boundary. */
public final class ItemBoundaryTests extends Tests {
    private static final String WHAT_IT_IS = "What it is";
    private static final String ITEMS = "ITEMS";
    private static final String LAYOUTS = "LAYOUTS";
    private static final String RULES = "RULES";

    public static void main(String[] args) {
        runSentences(ItemBoundaryTests.class);
    }

    @Sentence(of = WHAT_IT_IS, says = "An object is used for at most 512 calls after it has been made")
    static void fiveHundredAndTwelveCalls() {
        int filling = full().forget();
        TwoEndQueues q = full();
        int building = 0;
        for (int call = 2; call <= 511; call++) {
            int needed = q.build();
            due("build() as call " + call, needed, call == 2 ? needed : building);
            building = needed;
        }
        due("forget() as call 512", q.forget(), filling + 510 * building);

        TwoEndQueues inAndOut = new TwoEndQueues();
        for (int call = 1; call < 512; call += 2) {
            due("insert() as call " + call, inAndOut.insert(call), 0);
            due("takeGreatest() as call " + (call + 1), inAndOut.takeGreatest(), 0);
        }
    }

    @Sentence(of = ITEMS, says = "There are at most 30 items at a time.")
    static void atMostThirtyItems() {
        TwoEndQueues q = new TwoEndQueues();
        for (int n = 0; n < 30; n++) {
            due("size()", q.size(), n);
            due("insert(0)", q.insert(0), n);
        }
        dueThrow(q, "insert(0) with 30 items", STATE, () -> q.insert(0));
        dueThrow(q, "fill(1, 0) with 30 items", STATE, () -> q.fill(1, 0));
        typeAll(q, "i0;");
        due("run() of i0; with 30 items", q.run(), 0);
        due("size()", q.size(), 30);
        q.takeLeast();
        due("run() of i0; with 29 items", q.run(), 1);
        due("size()", q.size(), 30);
    }

    @Sentence(of = ITEMS, says = "An item has a key, from -999 to 999")
    static void keysFromMinusToPlus999() {
        TwoEndQueues q = with(-999, 999);
        due("key(0)", q.key(0), -999);
        due("key(1)", q.key(1), 999);
        dueThrow(q, "insert(-1000)", ARGUMENT, () -> q.insert(-1000));
        dueThrow(q, "insert(1000)", ARGUMENT, () -> q.insert(1000));
        due("change(0, 999)", q.change(0, 999), -999);
        due("change(1, -999)", q.change(1, -999), 999);
        due("key(0)", q.key(0), 999);
        due("key(1)", q.key(1), -999);
        dueThrow(q, "change(0, -1000)", ARGUMENT, () -> q.change(0, -1000));
        dueThrow(q, "change(0, 1000)", ARGUMENT, () -> q.change(0, 1000));
    }

    @Sentence(of = ITEMS, says = "and a handle, 0 to 29")
    static void handlesFromZeroTo29() {
        TwoEndQueues q = new TwoEndQueues();
        due("the first insert()", q.insert(7), 0);
        q.fill(28, 1);
        due("the last insert()", q.insert(-7), 29);
        due("key(0)", q.key(0), 7);
        due("key(29)", q.key(29), -7);
        due("where(0, 29)", q.at(0, q.where(0, 29)), 29);
        dueThrow(q, "key(-1)", INDEX, () -> q.key(-1));
        dueThrow(q, "key(30)", INDEX, () -> q.key(30));
    }

    @Sentence(of = ITEMS, says = "a new item gets the lowest handle that no item has")
    static void lowestFreeHandle() {
        TwoEndQueues q = with(1, 2, 3, 4, 5, 6);
        q.remove(4);
        q.remove(0);
        q.remove(3);
        due("insert() with 0, 3 and 4 free", q.insert(0), 0);
        due("insert() with 3 and 4 free", q.insert(0), 3);
        q.undo();
        due("insert() behind undo(), with 3 and 4 free", q.insert(0), 3);
        due("fill(2, 0) with 4 free", q.fill(2, 0), 7);
        due("handles()", q.handles(), 127);
        TwoEndQueues full = full();
        full.remove(29);
        due("insert() with 29 free", full.insert(0), 29);
        full.clear();
        due("insert() behind clear()", full.insert(0), 0);
    }

    /** A key that is one less outweighs the greatest handle, also across zero and at the ends. */
    @Sentence(of = ITEMS, says = "Item a is less than item b if its key is less")
    static void lessByKey() {
        for (int key : new int[] {-998, -1, 0, 1, 999}) {
            TwoEndQueues q = new TwoEndQueues();
            q.insert(key);
            q.fill(28, 1);
            q.insert(key - 1);
            due("rank(29) against rank(0), keys " + (key - 1) + " and " + key, q.rank(29) < q.rank(0) ? 1 : 0, 1);
            for (int handle = 1; handle < 29; handle++) {
                q.remove(handle);
            }
            q.build();
            for (int queue = 0; queue < 3; queue++) {
                due("least(" + queue + ") of " + key + " and " + (key - 1), q.least(queue), 29);
                due("greatest(" + queue + ") of " + key + " and " + (key - 1), q.greatest(queue), 0);
            }
        }
    }

    @Sentence(of = ITEMS, says = "or, with equal keys, if its handle is less")
    static void lessByHandle() {
        for (int key : new int[] {-999, -1, 0, 999}) {
            TwoEndQueues q = new TwoEndQueues();
            for (int handle = 0; handle < 30; handle++) {
                q.insert(key);
            }
            q.build();
            for (int handle = 0; handle < 30; handle++) {
                due("rank(" + handle + ") among keys " + key, q.rank(handle), handle);
                due("ranked(" + handle + ") among keys " + key, q.ranked(handle), handle);
            }
            for (int queue = 0; queue < 3; queue++) {
                due("least(" + queue + ")", q.least(queue), 0);
                due("greatest(" + queue + ")", q.greatest(queue), 29);
            }
        }
    }

    @Sentence(of = ITEMS, says = "this counts as one comparison of the queue in which it is done")
    static void oneComparisonOfItsQueue() {
        TwoEndQueues q = with(1);
        dueText("the counts with one item", counts(q), "0,0,0");
        q.insert(1);
        dueText("the counts with two items", counts(q), "1,1,2");
        q.insert(1);
        dueText("the counts with three items", counts(q), "3,2,4");
    }

    @Sentence(of = LAYOUTS, says = "A layout is a row of all items at the positions 0 to n - 1, where n is the number of items.")
    static void positionsUpToTheLast() {
        for (int n : new int[] {0, 1, 2, 29, 30}) {
            TwoEndQueues q = new TwoEndQueues();
            if (n > 0) {
                q.fill(n, n);
            }
            for (int layout = 0; layout < 4; layout++) {
                int seen = 0;
                for (int position = 0; position < n; position++) {
                    seen |= 1 << q.at(layout, position);
                }
                due("the handles of layout " + layout + " with " + n + " items", seen, (1 << n) - 1);
                due("at(" + layout + ", " + n + ")", q.at(layout, n), NONE);
                due("at(" + layout + ", -1)", q.at(layout, -1), NONE);
            }
        }
    }

    @Sentence(of = LAYOUTS, says = "There are four layouts")
    static void fourLayouts() {
        TwoEndQueues q = with(4);
        for (int layout = 0; layout < 4; layout++) {
            due("at(" + layout + ", 0)", q.at(layout, 0), 0);
        }
        dueThrow(q, "at(-1, 0)", ARGUMENT, () -> q.at(-1, 0));
        dueThrow(q, "at(4, 0)", ARGUMENT, () -> q.at(4, 0));
    }

    @Sentence(of = LAYOUTS, says = "To exchange two positions means that the items there change places.")
    static void exchangeOfPositions() {
        for (int layout = 0; layout < 4; layout++) {
            TwoEndQueues q = laid(layout, 0, 10, 20, 30);
            q.disturb(layout, 0, 3);
            dueText("layout " + layout, row(q, layout), "[3, 1, 2, 0]");
            q.disturb(layout, 2, 1);
            dueText("layout " + layout, row(q, layout), "[3, 2, 1, 0]");
            q.disturb(layout, 3, 3);
            dueText("layout " + layout, row(q, layout), "[3, 2, 1, 0]");
            due("key(3)", q.key(3), 30);
        }
    }

    private static void dueViolations(String what, int layout, int want, int... keys) {
        due("violations(" + layout + "), " + what, laid(layout, keys).violations(layout), want);
    }

    @Sentence(of = RULES, says = "A layout is right if these rules hold")
    static void rightLayouts() {
        for (int layout = 0; layout < 4; layout++) {
            due("violations(" + layout + ") without items", new TwoEndQueues().violations(layout), 0);
            dueViolations("one item", layout, 0, 5);
        }
        for (int n : new int[] {2, 3, 29, 30}) {
            dueViolations(n + " items", 0, 0, intervalKeys(n));
            dueViolations(n + " items", 1, 0, levelKeys(n));
        }
    }

    @Sentence(of = RULES, says = "each pair of positions for which one does not hold counts as a violation")
    static void everyPairCounts() {
        // every low item is greater than every high one: five nodes, four low and four high pairs with a parent
        dueViolations("all nodes upside down", 0, 13, 900, 100, 800, 200, 801, 201, 700, 300, 701, 301);
        // the greatest item first: against all nine below it
        dueViolations("the greatest first", 1, 9, put(levelKeys(10), 0, 999));
        dueViolations("descending", 2, 9, 9, 8, 7, 6, 5, 4, 3, 2, 1, 0);
        dueViolations("ascending", 3, 9, upTo(10));
    }

    @Sentence(of = RULES, says = "(a low position alone can be in two such pairs)")
    static void lowPositionAloneInTwoPairs() {
        dueViolations("9 1 | 5: in two pairs, and the pair of node 0", 0, 3, 9, 1, 5);
        dueViolations("1 9 | 0: with the low position above alone", 0, 1, 1, 9, 0);
        dueViolations("1 9 | 10: with the high position above alone", 0, 1, 1, 9, 10);
        dueViolations("1 9 | 5: in none", 0, 0, 1, 9, 5);
    }

    @Sentence(of = RULES, says = "the item at the high position of a node is not less than that at its low position")
    static void highAgainstLow() {
        dueViolations("equal keys, the high one has the greater handle", 0, 0, 5, 5);
        dueViolations("the high one is less by one", 0, 1, 5, 4);
        TwoEndQueues q = laid(0, 5, 5);
        due("disturb(): equal keys, the high one has the lower handle", q.disturb(0, 0, 1), 1);
        dueViolations("the last node of 30 items", 0, 1, put(put(intervalKeys(30), 28, 100), 29, 99));
        dueViolations("the last node has no high position", 0, 0, put(intervalKeys(29), 28, 100));
    }

    @Sentence(of = RULES, says = "the item at the low position of a node is not less than that at the low position of its parent")
    static void lowAgainstLowOfParent() {
        int[] keys = intervalKeys(30);
        dueViolations("equal keys, the parent has the lower handle", 0, 0, put(keys, 28, keys[12]));
        dueViolations("less by one", 0, 1, put(keys, 28, keys[12] - 1));
        dueViolations("the first child, less by one", 0, 1, put(keys, 26, keys[12] - 1));
        dueViolations("a low position alone, less by one", 0, 1, put(intervalKeys(29), 28, keys[12] - 1));
        dueViolations("node 0 has no parent", 0, 0, put(keys, 0, -999));
    }

    @Sentence(of = RULES, says = "the item at the high position of the parent of a node is not less than that at the top of the node")
    static void highOfParentAgainstTop() {
        int[] keys = intervalKeys(30);
        dueViolations("equal keys, the parent has the lower handle", 0, 1, put(keys, 29, keys[13]));
        dueViolations("less by one", 0, 0, put(keys, 29, keys[13] - 1));
        dueViolations("the first child, greater by one", 0, 1, put(keys, 27, keys[13] + 1));
        dueViolations("a low position alone is the top: greater by one", 0, 1, put(intervalKeys(29), 28, keys[13] + 1));
        dueViolations("a low position alone is the top: less by one", 0, 0, put(intervalKeys(29), 28, keys[13] - 1));
        dueViolations("node 0 has no parent", 0, 0, put(keys, 1, 999));
    }

    @Sentence(of = RULES, says = "for each position i, and each position j below it (its children, their children, and so on)")
    static void eachPositionBelow() {
        int[] keys = levelKeys(30);
        dueViolations("the greatest at 0 of 30", 1, 29, put(keys, 0, 999));
        dueViolations("the least at 29, on a low level: below 6 and 0", 1, 2, put(keys, 29, -999));
        dueViolations("the greatest at 29, on a low level: below 14 and 2", 1, 2, put(keys, 29, 999));
        dueViolations("position 14 without its only child", 1, 0, put(levelKeys(29), 14, 20));
        dueViolations("position 14 with its only child, 29", 1, 1, put(keys, 14, 20));
    }

    @Sentence(of = RULES, says = "if the level of i is low, the item at j is not less than that at i, otherwise the item at i is not less than that at j")
    static void lowAndHighLevels() {
        dueViolations("low, equal keys", 1, 0, 5, 5);
        dueViolations("low, less by one", 1, 1, 5, 4);
        int[] keys = levelKeys(8);
        dueViolations("high, greater by one two levels below", 1, 1, put(keys, 7, keys[1] + 1));
        dueViolations("high, equal keys: the one below has the greater handle", 1, 1, put(keys, 7, keys[1]));
        dueViolations("high, less by one", 1, 0, put(keys, 7, keys[1] - 1));
        dueViolations("high, greater by one one level below", 1, 1, put(keys, 4, keys[1] + 1));
    }

    @Sentence(of = RULES, says = "an item is not ahead of that at its parent")
    static void notAheadOfParent() {
        dueViolations("ascending", 2, 0, upTo(30));
        dueViolations("the last one equals its parent", 2, 0, put(upTo(30), 29, 14));
        dueViolations("the last one is less by one", 2, 1, put(upTo(30), 29, 13));
        int[] descending = new int[30];
        for (int position = 0; position < 30; position++) {
            descending[position] = -position;
        }
        dueViolations("descending", 3, 0, descending);
        dueViolations("the last one equals its parent, with the greater handle", 3, 1, put(descending, 29, -14));
        dueViolations("the last one is less by one", 3, 0, put(descending, 29, -15));
    }
}
