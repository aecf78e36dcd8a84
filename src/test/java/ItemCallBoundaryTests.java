import java.math.BigInteger;

/** A test for each sentence of the promises 1 to 12 that names a boundary. */
public final class ItemCallBoundaryTests extends Tests {
    private static final String NEW = "Promise 1: A new object";
    private static final String INSERT = "Promise 2: insert";
    private static final String TAKE_LEAST = "Promise 3: takeLeast";
    private static final String TAKE_GREATEST = "Promise 4: takeGreatest";
    private static final String REMOVE = "Promise 5: remove";
    private static final String CHANGE = "Promise 6: change";
    private static final String BUILD = "Promise 7: build";
    private static final String CLEAR = "Promise 8: clear";
    private static final String SIZE = "Promise 9: size";
    private static final String HANDLES = "Promise 10: handles";
    private static final String KEY = "Promise 11: key";
    private static final String FILL = "Promise 12: fill";

    private static final int[] NO_KEYS = {MIN, MIN + 999, -65536, -1000, 1000, 65536, MAX - 999, MAX};

    public static void main(String[] args) {
        runSentences(ItemCallBoundaryTests.class);
    }

    @Sentence(of = NEW,
        says = "Creates queues without items; no comparison has been counted, the text is empty, and there is no record.")
    static void newObject() {
        TwoEndQueues q = new TwoEndQueues();
        due("size()", q.size(), 0);
        due("handles()", q.handles(), 0);
        dueText("the queues", queues(q), "|[]|[]|[]|[]|0,0,0");
        due("forget()", new TwoEndQueues().forget(), 0);
        due("clearText()", q.clearText(), 0);
        due("fault()", q.fault(), NONE);
        dueThrow(q, "undo()", STATE, q::undo);
    }

    @Sentence(of = INSERT, says = "Returns its handle.")
    static void insertReturnsHandle() {
        TwoEndQueues q = new TwoEndQueues();
        for (int handle = 0; handle < 30; handle++) {
            due("insert()", q.insert(-handle), handle);
        }
    }

    @Sentence(of = INSERT, says = "Throws `IllegalArgumentException` if key is out of range")
    static void insertOutOfRange() {
        TwoEndQueues q = new TwoEndQueues();
        dueThrows(q, "insert()", ARGUMENT, q::insert, NO_KEYS);
        due("insert(-999)", q.insert(-999), 0);
        due("insert(999)", q.insert(999), 1);
    }

    @Sentence(of = INSERT, says = "Throws `IllegalStateException` if there are 30 items")
    static void insertInto30() {
        TwoEndQueues q = full();
        dueThrows(q, "insert()", STATE, q::insert, -999, 0, 999);
        q.remove(13);
        due("insert(0) with 29 items", q.insert(0), 13);
        dueThrow(q, "insert(0)", STATE, () -> q.insert(0));
    }

    @Sentence(of = TAKE_LEAST, says = "Takes the least item of queue 0 out of all queues.")
    static void takeLeastOfQueue0() {
        TwoEndQueues q = with(5, 3);
        due("takeLeast() of two", q.takeLeast(), 1);
        due("takeLeast() of one", q.takeLeast(), 0);
        dueText("the queues", queues(q), "|[]|[]|[]|[]|1,1,2");
        TwoEndQueues upsideDown = with(1, 5, 9);
        lay(upsideDown, 0, 2, 0, 1);
        due("takeLeast() by layout 0", upsideDown.takeLeast(), 2);
        due("handles()", upsideDown.handles(), 3);
    }

    @Sentence(of = TAKE_LEAST, says = "Throws `IllegalStateException` if there is no item")
    static void takeLeastOfNone() {
        TwoEndQueues q = new TwoEndQueues();
        dueThrow(q, "takeLeast() of a new object", STATE, q::takeLeast);
        q.insert(5);
        q.takeLeast();
        dueThrow(q, "takeLeast() behind the last one", STATE, q::takeLeast);
        q.fill(30, 1);
        q.clear();
        dueThrow(q, "takeLeast() behind clear()", STATE, q::takeLeast);
    }

    @Sentence(of = TAKE_GREATEST,
        says = "(The comparison that queue 1 needs to find its greatest item, with three or more items, counts in queue 1 first, though the item of queue 0 is taken out.)")
    static void takeGreatestOfQueue0() {
        TwoEndQueues q = with(1, 5, 9);
        lay(q, 0, 2, 0, 1);
        q.forget();
        due("greatest(1)", q.greatest(1), 2);
        due("takeGreatest() by layout 0", q.takeGreatest(), 0);
        // one to find it; then 9 comes to 0 of layout 1, and 5 is less
        due("comparisons(1) of three", q.comparisons(1), 2);
        q.forget();
        q.takeGreatest();
        dueText("the counts of two", counts(q), "0,0,0");
        q.takeGreatest();
        dueText("the counts of one", counts(q), "0,0,0");
        TwoEndQueues script = with(1, 5, 9);
        typeAll(script, "g;");
        script.forget();
        script.run();
        // one to find it; 9 is the last of layout 1
        due("comparisons(1) of g;", script.comparisons(1), 1);
    }

    @Sentence(of = TAKE_GREATEST, says = "Throws `IllegalStateException` if there is no item")
    static void takeGreatestOfNone() {
        TwoEndQueues q = new TwoEndQueues();
        dueThrow(q, "takeGreatest() of a new object", STATE, q::takeGreatest);
        q.insert(5);
        due("takeGreatest() of one", q.takeGreatest(), 0);
        dueThrow(q, "takeGreatest() behind the last one", STATE, q::takeGreatest);
    }

    @Sentence(of = REMOVE, says = "Returns its key.")
    static void removeReturnsKey() {
        TwoEndQueues q = with(-999, 999, 0, -1);
        due("remove(3)", q.remove(3), -1);
        due("remove(0)", q.remove(0), -999);
        due("remove(1)", q.remove(1), 999);
        due("remove(2)", q.remove(2), 0);
        due("size()", q.size(), 0);
    }

    @Sentence(of = REMOVE, says = "Throws `IndexOutOfBoundsException` if there is no such item")
    static void removeNoItem() {
        TwoEndQueues q = full();
        dueThrows(q, "remove()", INDEX, q::remove, NO_HANDLES);
        q.remove(0);
        q.remove(29);
        dueThrows(q, "remove() again", INDEX, q::remove, 0, 29);
        TwoEndQueues empty = new TwoEndQueues();
        dueThrows(empty, "remove() without items", INDEX, empty::remove, 0, -1, 29, 31);
    }

    @Sentence(of = CHANGE, says = "(with all steps and their comparisons, also if it is the same)")
    static void changeToTheSame() {
        TwoEndQueues q = with(5, 3, 4);
        q.forget();
        due("change(2, 4)", q.change(2, 4), 4);
        dueText("the queues", queues(q), "0:5 1:3 2:4 |[1, 0, 2]|[1, 0, 2]|[1, 0, 2]|[0, 1, 2]|2,1,2");
        TwoEndQueues one = with(7);
        due("change(0, 7)", one.change(0, 7), 7);
        dueText("the counts of one", counts(one), "0,0,0");
    }

    @Sentence(of = CHANGE, says = "Throws `IndexOutOfBoundsException` if there is no such item")
    static void changeNoItem() {
        TwoEndQueues q = full();
        dueThrows(q, "change(handle, 0)", INDEX, handle -> q.change(handle, 0), NO_HANDLES);
        dueThrows(q, "change(handle, 1000)", INDEX, handle -> q.change(handle, 1000), NO_HANDLES);
        q.remove(29);
        dueThrow(q, "change(29, 0)", INDEX, () -> q.change(29, 0));
    }

    @Sentence(of = CHANGE, says = "Throws `IllegalArgumentException` if key is out of range")
    static void changeOutOfRange() {
        TwoEndQueues q = full();
        dueThrows(q, "change(0, key)", ARGUMENT, key -> q.change(0, key), NO_KEYS);
        q.change(29, -999);
        due("change(29, 999)", q.change(29, 999), -999);
        due("key(29)", q.key(29), 999);
    }

    @Sentence(of = BUILD, says = "Returns how many comparisons this needs in all queues together.")
    static void buildNeeds() {
        due("build() without items", new TwoEndQueues().build(), 0);
        due("build() of one", with(5).build(), 0);
        due("build() of two", with(5, 3).build(), 2 + 1 + 2);
        TwoEndQueues three = with(5, 3, 4);
        due("build() of three", three.build(), 4 + 2 + 4);
        dueText("the counts: before, and what it needs", counts(three), "7,4,8");
        TwoEndQueues q = full();
        q.forget();
        int needed = q.build();
        due("build() of 30", needed, q.comparisons(0) + q.comparisons(1) + q.comparisons(2));
    }

    @Sentence(of = CLEAR, says = "Takes all items out, without comparisons.")
    static void clearWithoutComparisons() {
        TwoEndQueues q = with(5, 3, 4);
        q.clear();
        dueText("the queues", queues(q), "|[]|[]|[]|[]|3,2,4");
    }

    @Sentence(of = CLEAR, says = "Returns how many there were.")
    static void clearReturnsHowMany() {
        TwoEndQueues q = new TwoEndQueues();
        due("clear() without items", q.clear(), 0);
        q.insert(1);
        due("clear() of one", q.clear(), 1);
        q.fill(30, 1);
        due("clear() of 30", q.clear(), 30);
        due("clear() again", q.clear(), 0);
    }

    @Sentence(of = SIZE, says = "Returns the number of items.")
    static void size() {
        TwoEndQueues q = new TwoEndQueues();
        due("size()", q.size(), 0);
        q.insert(1);
        due("size()", q.size(), 1);
        q.fill(29, 1);
        due("size()", q.size(), 30);
        q.takeGreatest();
        due("size()", q.size(), 29);
    }

    @Sentence(of = HANDLES, says = "Returns the set of handles that items have.")
    static void handles() {
        due("handles() without items", new TwoEndQueues().handles(), 0);
        TwoEndQueues q = full();
        due("handles() of 30", q.handles(), 0x3fffffff);
        q.remove(0);
        due("handles() without 0", q.handles(), 0x3ffffffe);
        for (int handle = 1; handle < 29; handle++) {
            q.remove(handle);
        }
        due("handles() with 29 alone", q.handles(), 0x20000000);
    }

    @Sentence(of = KEY, says = "Throws `IndexOutOfBoundsException` if there is no such item")
    static void keyOfNoItem() {
        TwoEndQueues q = full();
        dueThrows(q, "key()", INDEX, q::key, NO_HANDLES);
        q.remove(0);
        q.remove(29);
        dueThrows(q, "key()", INDEX, q::key, 0, 29);
        TwoEndQueues empty = new TwoEndQueues();
        dueThrows(empty, "key() without items", INDEX, empty::key, 0, -1, 31);
    }

    /** The key of the item that fill() makes from x, reckoned without a bound. */
    private static BigInteger next(BigInteger x) {
        return x.multiply(BigInteger.valueOf(1103515245)).add(BigInteger.valueOf(12345)).mod(BigInteger.ONE.shiftLeft(31));
    }

    @Sentence(of = FILL, says = "for each of them x becomes (1103515245 * x + 12345) modulo 2^31 (without overflow)")
    static void fillWithoutOverflow() {
        for (int start : new int[] {0, 1, 2, 65535, 65536, 1 << 30, MAX - 1, MAX}) {
            TwoEndQueues q = new TwoEndQueues();
            q.fill(30, start);
            BigInteger x = BigInteger.valueOf(start);
            for (int handle = 0; handle < 30; handle++) {
                x = next(x);
                int want = x.shiftRight(16).mod(BigInteger.valueOf(200)).intValue() - 100;
                due("key(" + handle + ") behind fill(30, " + start + ")", q.key(handle), want);
            }
        }
    }

    @Sentence(of = FILL, says = "and the key is (x / 65536, rounded down) modulo 200, minus 100")
    static void fillKeys() {
        TwoEndQueues q = new TwoEndQueues();
        // x is 12345, so x / 65536 is 0
        q.fill(1, 0);
        due("the least key", q.key(0), -100);
        // x is 1481088723, so x / 65536 is 22599
        q.fill(1, 194);
        due("the greatest key", q.key(1), 99);
        // x is 1043980748, so x / 65536 is 15929
        q.fill(1, MAX);
        due("the key of the greatest start", q.key(2), 29);
    }

    @Sentence(of = FILL, says = "One undoable change.")
    static void fillIsOneChange() {
        TwoEndQueues q = with(5);
        q.fill(29, 5);
        due("undo()", q.undo(), 1);
        due("size()", q.size(), 1);
    }

    @Sentence(of = FILL, says = "how many, 1 to 30")
    static void fillCount() {
        due("fill(1, 0)", new TwoEndQueues().fill(1, 0), 1);
        due("fill(30, 0)", new TwoEndQueues().fill(30, 0), 30);
    }

    @Sentence(of = FILL, says = "`start`: 0 or more")
    static void fillStart() {
        due("fill(2, 0)", new TwoEndQueues().fill(2, 0), 2);
        due("fill(2, MAX)", new TwoEndQueues().fill(2, MAX), 2);
    }

    @Sentence(of = FILL, says = "Returns how many items there are then.")
    static void fillReturnsSize() {
        TwoEndQueues q = with(1, 2, 3);
        due("fill(1, 0) with three items", q.fill(1, 0), 4);
        due("fill(26, 0) with four items", q.fill(26, 0), 30);
    }

    @Sentence(of = FILL, says = "Throws `IllegalArgumentException` if count is out of range or start is negative")
    static void fillOutOfRange() {
        TwoEndQueues q = with(5);
        dueThrows(q, "fill(count, 0)", ARGUMENT, count -> q.fill(count, 0), MIN, -1, 0, 31, 32, MAX);
        dueThrows(q, "fill(1, start)", ARGUMENT, start -> q.fill(1, start), MIN, MIN + 1, -65536, -1);
        dueThrow(q, "fill(30, -1)", ARGUMENT, () -> q.fill(30, -1));
        dueThrow(q, "fill(31, 0)", ARGUMENT, () -> q.fill(31, 0));
    }

    @Sentence(of = FILL, says = "Throws `IllegalStateException` if there would be more than 30 items")
    static void fillBeyond30() {
        TwoEndQueues q = with(5);
        dueThrow(q, "fill(30, 0) with one item", STATE, () -> q.fill(30, 0));
        due("fill(29, 0) with one item", q.fill(29, 0), 30);
        dueThrow(q, "fill(1, 0) with 30 items", STATE, () -> q.fill(1, 0));
        q.takeLeast();
        dueThrow(q, "fill(2, 0) with 29 items", STATE, () -> q.fill(2, 0));
        due("fill(1, 0) with 29 items", q.fill(1, 0), 30);
    }
}
