/** Promise by promise: ordinary inputs, the edges that the document names, and wrong inputs. */
public final class PromiseTests extends Tests {
    private static final int[] EXTREMES = {MIN, MIN + 1, MAX - 1, MAX};

    private static long checksumOf(long... numbers) {
        long h = 18601;
        for (long v : numbers) {
            h = 31 * h + v;
        }
        return h;
    }

    public static void main(String[] args) {
        newObject();
        insert();
        insertOrders();
        takeLeast();
        takeGreatest();
        remove();
        change();
        build();
        clear();
        sizeHandlesKey();
        fill();
        ends();
        ranks();
        between();
        at();
        where();
        violations();
        disturb();
        level();
        ancestors();
        comparisons();
        forget();
        wouldNeed();
        sortingNeeds();
        fewest();
        type();
        clearText();
        fault();
        run();
        undo();
        undoOfEach();
        checksum();
        finish("all promises hold");
    }

    private static void newObject() {
        place = "promise 1";
        TwoEndQueues q = new TwoEndQueues();
        due("NONE", TwoEndQueues.NONE, -1);
        due("size()", q.size(), 0);
        due("handles()", q.handles(), 0);
        dueText("counts", counts(q), "0,0,0");
        for (int layout = 0; layout < 4; layout++) {
            due("at(layout, 0)", q.at(layout, 0), -1);
        }
        due("fault()", q.fault(), -1);
        due("clearText()", q.clearText(), 0);
        dueThrow(q, "undo()", STATE, q::undo);
        TwoEndQueues other = with(7);
        due("size() beside another object", q.size(), 0);
        due("size() of the other object", other.size(), 1);
    }

    private static void insert() {
        place = "promise 2";
        TwoEndQueues q = new TwoEndQueues();
        due("insert(5)", q.insert(5), 0);
        dueText("counts", counts(q), "0,0,0");
        due("insert(3)", q.insert(3), 1);
        dueText("counts", counts(q), "1,1,2");
        due("insert(4)", q.insert(4), 2);
        dueText("all", queues(q), "0:5 1:3 2:4 |[1, 0, 2]|[1, 0, 2]|[1, 0, 2]|[0, 1, 2]|3,2,4");
        q.remove(1);
        due("insert() gives the lowest free handle", q.insert(999), 1);
        due("key(1)", q.key(1), 999);
        due("insert(-999)", q.insert(-999), 3);
        dueThrow(q, "insert(1000)", ARGUMENT, () -> q.insert(1000));
        dueThrow(q, "insert(-1000)", ARGUMENT, () -> q.insert(-1000));
        for (int extreme : EXTREMES) {
            dueThrow(q, "insert(extreme)", ARGUMENT, () -> q.insert(extreme));
        }
        for (int handle = 4; handle < 30; handle++) {
            due("insert()", q.insert(0), handle);
        }
        dueThrow(q, "insert(0) with 30 items", STATE, () -> q.insert(0));
        dueThrow(q, "insert(1000) with 30 items", ARGUMENT, () -> q.insert(1000));
        q.remove(17);
        due("insert(0) with 29 items", q.insert(0), 17);
    }

    /** Equal keys are told apart by their handles. */
    private static void insertOrders() {
        TwoEndQueues q = with(0, 0, 0, 0);
        dueText("all", queues(q), "0:0 1:0 2:0 3:0 |[0, 3, 1, 2]|[0, 3, 2, 1]|[0, 1, 2, 3]|[3, 2, 1, 0]|5,3,7");
        due("rank(2)", q.rank(2), 2);
    }

    private static void takeLeast() {
        place = "promise 3";
        TwoEndQueues q = with(5, 3, 4);
        q.forget();
        due("takeLeast()", q.takeLeast(), 1);
        dueText("all", queues(q), "0:5 2:4 |[2, 0]|[2, 0]|[2, 0]|[0, 2]|3,1,2");
        due("takeLeast()", q.takeLeast(), 2);
        due("takeLeast()", q.takeLeast(), 0);
        dueThrow(q, "takeLeast() without items", STATE, q::takeLeast);
        TwoEndQueues same = with(4, 4);
        due("takeLeast() with equal keys", same.takeLeast(), 0);
        TwoEndQueues disturbed = with(1, 2, 3);
        disturbed.disturb(0, 0, 1);
        int first = disturbed.at(0, 0);
        due("takeLeast() goes by layout 0", disturbed.takeLeast(), first);
        due("handles()", disturbed.handles(), 7 & ~(1 << first));
    }

    private static void takeGreatest() {
        place = "promise 4";
        TwoEndQueues q = with(5, 3, 4);
        q.forget();
        due("takeGreatest()", q.takeGreatest(), 0);
        dueText("all", queues(q), "1:3 2:4 |[1, 2]|[1, 2]|[1, 2]|[2, 1]|3,2,2");
        q.forget();
        due("takeGreatest()", q.takeGreatest(), 2);
        dueText("counts with two items", counts(q), "0,0,0");
        due("takeGreatest()", q.takeGreatest(), 1);
        dueText("counts with one item", counts(q), "0,0,0");
        dueThrow(q, "takeGreatest() without items", STATE, q::takeGreatest);
        due("takeGreatest() with equal keys", with(4, 4).takeGreatest(), 1);
        TwoEndQueues disturbed = with(1, 2, 3);
        disturbed.disturb(0, 0, 1);
        int top = disturbed.at(0, 1);
        due("takeGreatest() goes by layout 0", disturbed.takeGreatest(), top);
    }

    private static void remove() {
        place = "promise 5";
        TwoEndQueues q = with(5, 3, 4);
        q.forget();
        due("remove(2), the last position of layouts 0 to 3", q.remove(2), 4);
        dueText("all", queues(q), "0:5 1:3 |[1, 0]|[1, 0]|[1, 0]|[0, 1]|0,0,0");
        due("remove(0)", q.remove(0), 5);
        dueText("all", queues(q), "1:3 |[1]|[1]|[1]|[1]|0,0,0");
        for (int handle : new int[] {-1, 0, 2, 29, 30, 32, 33}) {
            dueThrow(q, "remove(" + handle + ")", INDEX, () -> q.remove(handle));
        }
        for (int extreme : EXTREMES) {
            dueThrow(q, "remove(extreme)", INDEX, () -> q.remove(extreme));
        }
        due("remove(1)", q.remove(1), 3);
        dueThrow(q, "remove(1) again", INDEX, () -> q.remove(1));
    }

    private static void change() {
        place = "promise 6";
        TwoEndQueues q = with(5, 3, 4);
        q.forget();
        due("change(2, 4)", q.change(2, 4), 4);
        dueText("all", queues(q), "0:5 1:3 2:4 |[1, 0, 2]|[1, 0, 2]|[1, 0, 2]|[0, 1, 2]|2,1,2");
        q.forget();
        due("change(1, 999)", q.change(1, 999), 3);
        dueText("all", queues(q), "0:5 1:999 2:4 |[2, 1, 0]|[2, 0, 1]|[2, 0, 1]|[1, 0, 2]|5,2,3");
        due("change(1, -999)", q.change(1, -999), 999);
        due("key(1)", q.key(1), -999);
        dueThrow(q, "change(1, 1000)", ARGUMENT, () -> q.change(1, 1000));
        dueThrow(q, "change(1, -1000)", ARGUMENT, () -> q.change(1, -1000));
        dueThrow(q, "change(3, 0)", INDEX, () -> q.change(3, 0));
        dueThrow(q, "change(-1, 0)", INDEX, () -> q.change(-1, 0));
        dueThrow(q, "change(30, 1000)", INDEX, () -> q.change(30, 1000));
        for (int extreme : EXTREMES) {
            dueThrow(q, "change(extreme, 0)", INDEX, () -> q.change(extreme, 0));
            dueThrow(q, "change(0, extreme)", ARGUMENT, () -> q.change(0, extreme));
        }
    }

    private static void build() {
        place = "promise 7";
        TwoEndQueues q = with(5, 3, 4);
        q.disturb(0, 0, 1);
        q.disturb(1, 0, 1);
        q.disturb(2, 0, 1);
        q.disturb(3, 0, 1);
        q.forget();
        due("build()", q.build(), 4 + 2 + 4);
        dueText("all", queues(q), "0:5 1:3 2:4 |[1, 0, 2]|[1, 0, 2]|[1, 0, 2]|[0, 1, 2]|4,2,4");
        for (int layout = 0; layout < 4; layout++) {
            due("violations(layout)", q.violations(layout), 0);
        }
        due("build() without items", new TwoEndQueues().build(), 0);
        due("build() with one item", with(1).build(), 0);
        due("build() with two items", with(1, 2).build(), 2 + 1 + 2);
        TwoEndQueues empty = new TwoEndQueues();
        empty.build();
        due("undo() of a build() that changed nothing", empty.undo(), 0);
    }

    private static void clear() {
        place = "promise 8";
        TwoEndQueues q = with(5, 3, 4);
        due("clear()", q.clear(), 3);
        dueText("all", queues(q), "|[]|[]|[]|[]|3,2,4");
        due("clear()", q.clear(), 0);
        due("undo()", q.undo(), 4);
        due("undo()", q.undo(), 3);
        dueText("all", queues(q), "0:5 1:3 2:4 |[1, 0, 2]|[1, 0, 2]|[1, 0, 2]|[0, 1, 2]|3,2,4");
        q.clear();
        due("insert() after clear()", q.insert(9), 0);
    }

    private static void sizeHandlesKey() {
        TwoEndQueues q = with(5, -3, 4);
        q.remove(1);
        place = "promise 9";
        due("size()", q.size(), 2);
        place = "promise 10";
        due("handles()", q.handles(), 5);
        place = "promise 11";
        due("key(0)", q.key(0), 5);
        due("key(2)", q.key(2), 4);
        q.insert(-999);
        due("key(1)", q.key(1), -999);
        for (int handle : new int[] {-1, 3, 29, 30, 31, 32}) {
            dueThrow(q, "key(" + handle + ")", INDEX, () -> q.key(handle));
        }
        for (int extreme : EXTREMES) {
            dueThrow(q, "key(extreme)", INDEX, () -> q.key(extreme));
        }
        q.fill(27, 1);
        place = "promise 9";
        due("size() with 30 items", q.size(), 30);
        place = "promise 10";
        due("handles() with 30 items", q.handles(), (1 << 30) - 1);
    }

    private static void fill() {
        place = "promise 12";
        TwoEndQueues q = new TwoEndQueues();
        due("fill(2, 1)", q.fill(2, 1), 2);
        // x is 1103527590, then (1103515245 * 1103527590 + 12345) mod 2^31 = 377401575
        due("key(0)", q.key(0), 16838 % 200 - 100);
        due("key(1)", q.key(1), 5758 % 200 - 100);
        due("undo() of one fill()", q.undo(), 0);
        due("size()", q.size(), 0);
        due("fill(1, 0)", q.fill(1, 0), 1);
        due("key(0) from 12345", q.key(0), -100);
        due("fill(1, MAX)", q.fill(1, MAX), 2);
        // -(1103515245) + 12345 mod 2^31 = 1043980748
        due("key(1)", q.key(1), 15929 % 200 - 100);
        dueThrow(q, "fill(0, 0)", ARGUMENT, () -> q.fill(0, 0));
        dueThrow(q, "fill(-1, 0)", ARGUMENT, () -> q.fill(-1, 0));
        dueThrow(q, "fill(31, 0)", ARGUMENT, () -> q.fill(31, 0));
        dueThrow(q, "fill(1, -1)", ARGUMENT, () -> q.fill(1, -1));
        dueThrow(q, "fill(29, 0)", STATE, () -> q.fill(29, 0));
        dueThrow(q, "fill(30, 0)", STATE, () -> q.fill(30, 0));
        dueThrow(q, "fill(30, -1)", ARGUMENT, () -> q.fill(30, -1));
        for (int extreme : EXTREMES) {
            dueThrow(q, "fill(extreme, 0)", ARGUMENT, () -> q.fill(extreme, 0));
        }
        due("fill(28, 5)", q.fill(28, 5), 30);
        dueThrow(q, "fill(1, 0) with 30 items", STATE, () -> q.fill(1, 0));
        dueThrow(q, "fill(31, 0) with 30 items", ARGUMENT, () -> q.fill(31, 0));
        TwoEndQueues whole = new TwoEndQueues();
        due("fill(30, 77)", whole.fill(30, 77), 30);
        TwoEndQueues single = new TwoEndQueues();
        for (int handle = 0; handle < 30; handle++) {
            single.insert(whole.key(handle));
        }
        dueText("fill() against insert()", queues(whole), queues(single));
    }

    private static void ends() {
        TwoEndQueues empty = new TwoEndQueues();
        TwoEndQueues q = with(5, 3, 4, 9);
        for (int queue = 0; queue < 3; queue++) {
            int asked = queue;
            place = "promise 13";
            due("least() without items", empty.least(asked), -1);
            due("least()", q.least(asked), 1);
            due("least() of one", with(1).least(asked), 0);
            place = "promise 14";
            due("greatest() without items", empty.greatest(asked), -1);
            due("greatest()", q.greatest(asked), 3);
            due("greatest() of one", with(1).greatest(asked), 0);
            due("greatest() of two", with(1, 2).greatest(asked), 1);
            due("greatest() of three, the last", with(1, 2, 3).greatest(asked), 2);
            due("greatest() of three, equal", with(3, 3, 3).greatest(asked), 2);
        }
        String before = trace(q);
        q.greatest(1);
        dueSame(q, "greatest(1) counts nothing", before);
        endsGoByLayout();
        for (int queue : new int[] {-1, 3, MIN, MAX}) {
            place = "promise 13";
            dueThrow(q, "least(" + queue + ")", ARGUMENT, () -> q.least(queue));
            dueThrow(empty, "least(" + queue + ")", ARGUMENT, () -> empty.least(queue));
            place = "promise 14";
            dueThrow(q, "greatest(" + queue + ")", ARGUMENT, () -> q.greatest(queue));
            dueThrow(empty, "greatest(" + queue + ")", ARGUMENT, () -> empty.greatest(queue));
        }
    }

    private static void endsGoByLayout() {
        TwoEndQueues q = with(10, 20, 30, 40);
        // the layouts are [0, 3, 1, 2], [0, 3, 2, 1], [0, 1, 2, 3], [3, 2, 1, 0]
        for (int layout = 0; layout < 4; layout++) {
            q.disturb(layout, 0, 3);
        }
        place = "promise 13";
        due("least(0)", q.least(0), 2);
        due("least(1)", q.least(1), 1);
        due("least(2)", q.least(2), 3);
        place = "promise 14";
        q.disturb(0, 1, 2);
        due("greatest(0)", q.greatest(0), 1);
        due("greatest(1)", q.greatest(1), 3);
        q.disturb(1, 1, 3);
        due("greatest(1)", q.greatest(1), 2);
        due("greatest(2)", q.greatest(2), 0);
    }

    private static void ranks() {
        TwoEndQueues q = with(5, -7, 5, 999);
        int[] order = {1, 0, 2, 3};
        for (int nth = 0; nth < 4; nth++) {
            place = "promise 15";
            due("ranked(" + nth + ")", q.ranked(nth), order[nth]);
            place = "promise 16";
            due("rank(" + order[nth] + ")", q.rank(order[nth]), nth);
        }
        place = "promise 15";
        for (int nth : new int[] {-1, 4, 30, MIN, MAX}) {
            due("ranked(" + nth + ")", q.ranked(nth), -1);
        }
        due("ranked(0) without items", new TwoEndQueues().ranked(0), -1);
        q.disturb(0, 0, 3);
        due("ranked(0), disturbed", q.ranked(0), 1);
        place = "promise 16";
        due("rank(1), disturbed", q.rank(1), 0);
        for (int handle : new int[] {-1, 4, 30, MIN, MAX}) {
            dueThrow(q, "rank(" + handle + ")", INDEX, () -> q.rank(handle));
        }
    }

    private static void between() {
        place = "promise 17";
        TwoEndQueues q = with(5, -7, 5, 999, -999);
        due("between(5, 5)", q.between(5, 5), 2);
        due("between(-7, 5)", q.between(-7, 5), 3);
        due("between(-6, 4)", q.between(-6, 4), 0);
        due("between(5, -7)", q.between(5, -7), 0);
        due("between(-999, 999)", q.between(-999, 999), 5);
        due("between(-998, 998)", q.between(-998, 998), 3);
        due("between(MIN, MAX)", q.between(MIN, MAX), 5);
        due("between(MAX, MIN)", q.between(MAX, MIN), 0);
        due("between() without items", new TwoEndQueues().between(-999, 999), 0);
        q.remove(0);
        due("between(5, 5) with one left", q.between(5, 5), 1);
    }

    private static void at() {
        place = "promise 18";
        TwoEndQueues q = with(5, 3, 4);
        dueText("layouts", row(q, 0) + row(q, 1) + row(q, 2) + row(q, 3), "[1, 0, 2][1, 0, 2][1, 0, 2][0, 1, 2]");
        for (int layout = 0; layout < 4; layout++) {
            for (int position : new int[] {-1, 3, 29, 30, MIN, MAX}) {
                due("at(" + layout + ", " + position + ")", q.at(layout, position), -1);
            }
        }
        for (int layout : new int[] {-1, 4, MIN, MAX}) {
            dueThrow(q, "at(" + layout + ", 0)", ARGUMENT, () -> q.at(layout, 0));
            dueThrow(q, "at(" + layout + ", 9)", ARGUMENT, () -> q.at(layout, 9));
        }
        q.takeLeast();
        due("at(0, 2) with two items", q.at(0, 2), -1);
    }

    private static void where() {
        place = "promise 19";
        TwoEndQueues q = with(5, 3, 4);
        due("where(0, 1)", q.where(0, 1), 0);
        due("where(1, 2)", q.where(1, 2), 2);
        due("where(2, 0)", q.where(2, 0), 1);
        due("where(3, 0)", q.where(3, 0), 0);
        for (int layout : new int[] {-1, 4, MIN, MAX}) {
            dueThrow(q, "where(" + layout + ", 0)", ARGUMENT, () -> q.where(layout, 0));
            dueThrow(q, "where(" + layout + ", 30)", ARGUMENT, () -> q.where(layout, 30));
        }
        for (int handle : new int[] {-1, 3, 30, MIN, MAX}) {
            dueThrow(q, "where(0, " + handle + ")", INDEX, () -> q.where(0, handle));
        }
    }

    private static void violations() {
        place = "promise 20";
        TwoEndQueues q = with(5, 3, 4);
        for (int layout = 0; layout < 4; layout++) {
            due("violations(layout)", q.violations(layout), 0);
            due("violations(layout) without items", new TwoEndQueues().violations(layout), 0);
        }
        q.disturb(0, 0, 1);
        due("violations(0), a low position alone in two pairs", q.violations(0), 3);
        String before = trace(q);
        q.violations(0);
        dueSame(q, "violations() counts no comparison", before);
        TwoEndQueues four = with(0, 1, 2, 3);
        four.disturb(1, 0, 1);
        due("violations(1)", four.violations(1), 4);
        due("violations(2)", four.violations(2), 0);
        four.disturb(1, 0, 1);
        four.disturb(1, 0, 3);
        due("violations(1) two levels apart", four.violations(1), 1);
        TwoEndQueues same = with(2, 2, 2);
        same.disturb(2, 0, 2);
        due("violations(2) by handles", same.violations(2), 2);
        same.disturb(3, 0, 1);
        due("violations(3) by handles", same.violations(3), 2);
        for (int layout : new int[] {-1, 4, MIN, MAX}) {
            dueThrow(q, "violations(" + layout + ")", ARGUMENT, () -> q.violations(layout));
        }
    }

    private static void disturb() {
        place = "promise 21";
        TwoEndQueues q = with(0, 1, 2, 3, 4, 5, 6);
        dueText("layout 2", row(q, 2), "[0, 1, 2, 3, 4, 5, 6]");
        String others = row(q, 0) + row(q, 1) + row(q, 3) + counts(q);
        due("disturb(2, 0, 6)", q.disturb(2, 0, 6), 3);
        dueText("layout 2", row(q, 2), "[6, 1, 2, 3, 4, 5, 0]");
        dueText("other layouts and counts", row(q, 0) + row(q, 1) + row(q, 3) + counts(q), others);
        due("disturb(2, 3, 3)", q.disturb(2, 3, 3), 3);
        due("undo()", q.undo(), 4);
        due("disturb(2, 6, 0)", q.disturb(2, 6, 0), 0);
        dueText("layout 2", row(q, 2), "[0, 1, 2, 3, 4, 5, 6]");
        for (int layout : new int[] {-1, 4, MIN, MAX}) {
            dueThrow(q, "disturb(" + layout + ", 0, 0)", ARGUMENT, () -> q.disturb(layout, 0, 0));
            dueThrow(q, "disturb(" + layout + ", 9, 9)", ARGUMENT, () -> q.disturb(layout, 9, 9));
        }
        for (int position : new int[] {-1, 7, 30, MIN, MAX}) {
            dueThrow(q, "disturb(0, " + position + ", 0)", INDEX, () -> q.disturb(0, position, 0));
            dueThrow(q, "disturb(0, 0, " + position + ")", INDEX, () -> q.disturb(0, 0, position));
            dueThrow(q, "disturb(0, twice " + position + ")", INDEX, () -> q.disturb(0, position, position));
        }
    }

    private static void level() {
        place = "promise 22";
        TwoEndQueues q = new TwoEndQueues();
        int level = 0;
        for (int first = 0; first <= 1000000; first = 2 * first + 1) {
            due("level(" + first + ")", q.level(first), level);
            if (2 * first <= 1000000) {
                due("level(" + 2 * first + ")", q.level(2 * first), level);
            }
            level++;
        }
        due("level(2)", q.level(2), 1);
        due("level(1000000)", q.level(1000000), 19);
        for (int position : new int[] {-1, 1000001, MIN, MAX}) {
            dueThrow(q, "level(" + position + ")", ARGUMENT, () -> q.level(position));
        }
    }

    private static void ancestors() {
        place = "promise 23";
        TwoEndQueues q = with(0, 1, 2, 3);
        // layout 2 is [0, 1, 2, 3], layout 3 is [3, 2, 1, 0]
        dueText("layout 3", row(q, 3), "[3, 2, 1, 0]");
        for (int handle = 0; handle < 4; handle++) {
            due("ancestors(" + handle + ")", q.ancestors(handle), 0);
        }
        q.disturb(3, 0, 1);
        // layout 3 is [2, 3, 1, 0]: above 0 stand 3 and 2, above 3 stands 2
        due("ancestors(0)", q.ancestors(0), 0);
        q.disturb(2, 0, 3);
        q.disturb(2, 1, 2);
        // layout 2 is [3, 2, 1, 0]: above 0 stand 2 and 3
        due("ancestors(0)", q.ancestors(0), 2);
        due("ancestors(1)", q.ancestors(1), 0);
        due("ancestors(3)", q.ancestors(3), 0);
        q.disturb(3, 0, 1);
        due("ancestors(1), with position 0 on both ways", q.ancestors(1), 1);
        for (int handle : new int[] {-1, 4, 30, MIN, MAX}) {
            dueThrow(q, "ancestors(" + handle + ")", INDEX, () -> q.ancestors(handle));
        }
    }

    private static void comparisons() {
        place = "promise 24";
        TwoEndQueues q = with(5, 3, 4);
        due("comparisons(0)", q.comparisons(0), 3);
        due("comparisons(1)", q.comparisons(1), 2);
        due("comparisons(2)", q.comparisons(2), 4);
        for (int queue : new int[] {-1, 3, MIN, MAX}) {
            dueThrow(q, "comparisons(" + queue + ")", ARGUMENT, () -> q.comparisons(queue));
        }
    }

    private static void forget() {
        place = "promise 25";
        TwoEndQueues q = with(5, 3, 4);
        due("forget()", q.forget(), 9);
        dueText("counts", counts(q), "0,0,0");
        due("size()", q.size(), 3);
        due("forget()", q.forget(), 0);
        q.undo();
        dueText("counts", counts(q), "0,0,0");
        q.undo();
        dueText("counts", counts(q), "3,2,4");
    }

    private static void wouldNeed() {
        place = "promise 26";
        TwoEndQueues q = with(5, 3, 4);
        String before = trace(q);
        due("takeLeast(), queue 0", q.wouldNeed(0, 1, 0), 3);
        due("takeLeast(), queue 1", q.wouldNeed(1, 1, 1000), 1);
        due("takeLeast(), queue 2", q.wouldNeed(2, 1, -1), 2);
        due("takeGreatest(), queue 1", q.wouldNeed(1, 2, 0), 2);
        due("remove(2), queue 0", q.wouldNeed(0, 3, 2), 0);
        due("remove(3)", q.wouldNeed(0, 3, 3), -1);
        due("remove(-1)", q.wouldNeed(0, 3, -1), -1);
        due("build(), queue 0", q.wouldNeed(0, 4, 0), 4);
        due("build(), queue 2", q.wouldNeed(2, 4, MIN), 4);
        due("insert(999)", q.wouldNeed(0, 0, 999), 2);
        due("insert(1000)", q.wouldNeed(0, 0, 1000), -1);
        due("insert(-1000)", q.wouldNeed(1, 0, -1000), -1);
        dueSame(q, "wouldNeed() changes nothing", before);
        wouldNeedAgainstCalls();
        TwoEndQueues empty = new TwoEndQueues();
        due("takeLeast() without items", empty.wouldNeed(0, 1, 0), -1);
        due("takeGreatest() without items", empty.wouldNeed(2, 2, 0), -1);
        due("build() without items", empty.wouldNeed(1, 4, 0), 0);
        due("first insert()", empty.wouldNeed(2, 0, 0), 0);
        empty.fill(30, 1);
        due("insert() with 30 items", empty.wouldNeed(0, 0, 0), -1);
        for (int queue : new int[] {-1, 3, MIN, MAX}) {
            dueThrow(q, "wouldNeed(" + queue + ", 0, 0)", ARGUMENT, () -> q.wouldNeed(queue, 0, 0));
            dueThrow(q, "wouldNeed(" + queue + ", 0, 1000)", ARGUMENT, () -> q.wouldNeed(queue, 0, 1000));
        }
        for (int what : new int[] {-1, 5, 6, MIN, MAX}) {
            dueThrow(q, "wouldNeed(0, " + what + ", 0)", ARGUMENT, () -> q.wouldNeed(0, what, 0));
        }
    }

    private static void wouldNeedAgainstCalls() {
        TwoEndQueues q = new TwoEndQueues();
        q.fill(23, 4242);
        q.disturb(0, 0, 9);
        for (int what = 0; what < 5; what++) {
            int[] thought = new int[3];
            int[] before = new int[3];
            for (int queue = 0; queue < 3; queue++) {
                thought[queue] = q.wouldNeed(queue, what, 11);
                before[queue] = q.comparisons(queue);
            }
            switch (what) {
                case 0: q.insert(11); break;
                case 1: q.takeLeast(); break;
                case 2: q.takeGreatest(); break;
                case 3: q.remove(11); break;
                default: q.build(); break;
            }
            for (int queue = 0; queue < 3; queue++) {
                due("wouldNeed(" + queue + ", " + what + ", 11)", thought[queue], q.comparisons(queue) - before[queue]);
            }
            q.undo();
        }
    }

    private static void sortingNeeds() {
        place = "promise 27";
        TwoEndQueues q = with(5, 3, 4);
        String before = trace(q);
        // each time the last item comes to position 0; with one item left nothing is compared
        due("sortingNeeds(0)", q.sortingNeeds(0), 3);
        due("sortingNeeds(1)", q.sortingNeeds(1), 1);
        due("sortingNeeds(2)", q.sortingNeeds(2), 2);
        dueSame(q, "sortingNeeds() changes nothing", before);
        for (int queue = 0; queue < 3; queue++) {
            due("sortingNeeds() without items", new TwoEndQueues().sortingNeeds(queue), 0);
            due("sortingNeeds() of one", with(1).sortingNeeds(queue), 0);
        }
        TwoEndQueues big = new TwoEndQueues();
        big.fill(30, 99);
        int[] needs = {big.sortingNeeds(0), big.sortingNeeds(1), big.sortingNeeds(2)};
        big.forget();
        for (int i = 0; i < 30; i++) {
            big.takeLeast();
        }
        dueText("sortingNeeds() against takeLeast()", counts(big), needs[0] + "," + needs[1] + "," + needs[2]);
        for (int queue : new int[] {-1, 3, MIN, MAX}) {
            dueThrow(q, "sortingNeeds(" + queue + ")", ARGUMENT, () -> q.sortingNeeds(queue));
        }
    }

    private static void fewest() {
        place = "promise 28";
        due("fewest() of a new object", new TwoEndQueues().fewest(), 0);
        due("fewest() with 1, 1, 2", with(5, 3).fewest(), 0);
        due("fewest() with 3, 2, 4", with(5, 3, 4).fewest(), 1);
        TwoEndQueues q = with(5, 3, 4);
        q.forget();
        q.change(1, 999);
        due("fewest() with 5, 2, 3", q.fewest(), 1);
        q.forget();
        q.build();
        due("fewest() with 4, 2, 4", q.fewest(), 1);
        TwoEndQueues many = new TwoEndQueues();
        many.fill(30, 1);
        many.forget();
        many.change(many.at(1, 0), 999);
        many.change(many.at(1, 0), 999);
        int least = Math.min(many.comparisons(0), Math.min(many.comparisons(1), many.comparisons(2)));
        due("comparisons(fewest())", many.comparisons(many.fewest()), least);
        due("fewest() with " + counts(many), many.fewest(), 2);
    }

    private static void type() {
        place = "promise 29";
        TwoEndQueues q = new TwoEndQueues();
        due("type(32)", q.type(32), 1);
        due("type(126)", q.type(126), 2);
        for (int c : new int[] {-1, 0, 31, 127, 128, 256 + 65, MIN, MAX}) {
            dueThrow(q, "type(" + c + ")", ARGUMENT, () -> q.type(c));
        }
        for (int length = 3; length <= 120; length++) {
            due("type(65)", q.type(65), length);
        }
        dueThrow(q, "type(65) with 120 characters", STATE, () -> q.type(65));
        dueThrow(q, "type(31) with 120 characters", ARGUMENT, () -> q.type(31));
        dueThrow(q, "undo(): typing is not undoable", STATE, q::undo);
        due("clearText()", q.clearText(), 120);
        due("type(65)", q.type(65), 1);
    }

    private static void clearText() {
        place = "promise 30";
        TwoEndQueues q = with(1);
        typeAll(q, "l;x");
        due("clearText()", q.clearText(), 3);
        due("fault()", q.fault(), -1);
        due("clearText()", q.clearText(), 0);
        due("run()", q.run(), 0);
        due("undo() of run()", q.undo(), 1);
    }

    private static void fault() {
        place = "promise 31";
        String[] scripts = {
            "", "l;", "g;", "b;", "i0;", "i999;", "i-999;", "i-0;", "i000;", "i-00;", "i007;", "r0;", "r00;", "r99;", "r30;",
            "c0,0;", "c29,-999;", "c07,012;", "i1;i2;l;g;r0;c1,-5;b;",
        };
        for (String script : scripts) {
            dueFault(script, -1);
        }
        dueFault("x", 0);
        dueFault(";", 0);
        dueFault(" ", 0);
        dueFault("L;", 0);
        dueFault("l", 1);
        dueFault("l ;", 1);
        dueFault("l;;", 2);
        dueFault("l0;", 1);
        dueFault("l;g", 3);
        dueFault("i", 1);
        dueFault("i;", 1);
        dueFault("i ", 1);
        dueFault("i-", 2);
        dueFault("i-;", 2);
        dueFault("i--1;", 2);
        dueFault("i+1;", 1);
        dueFault("i1000;", 4);
        dueFault("i-1000;", 5);
        dueFault("i0000;", 4);
        dueFault("i12", 3);
        dueFault("i1-;", 2);
        dueFault("i1,2;", 2);
        dueFault("r", 1);
        dueFault("r;", 1);
        dueFault("r-0;", 1);
        dueFault("r100;", 3);
        dueFault("r000;", 3);
        dueFault("r1,2;", 2);
        dueFault("c", 1);
        dueFault("c1", 2);
        dueFault("c1;", 2);
        dueFault("c,1;", 1);
        dueFault("c-0,1;", 1);
        dueFault("c123,1;", 3);
        dueFault("c1,", 3);
        dueFault("c1,;", 3);
        dueFault("c1,-", 4);
        dueFault("c1,1000;", 6);
        dueFault("c1,1,", 4);
        dueFault("b;b;b1;", 5);
        dueFault("b;".repeat(60), -1);
        dueFault("b;".repeat(59) + "l", 119);
        dueFault("i1;".repeat(39) + "i12", 120);
        dueFault("i1;".repeat(39) + "i-1", 120);
    }

    private static void dueFault(String text, int want) {
        TwoEndQueues q = with(4, 4);
        typeAll(q, text);
        due("fault() of " + text, q.fault(), want);
        due("fault() again", q.fault(), want);
        if (want != -1) {
            dueThrow(q, "run() of " + text, ARGUMENT, q::run);
        }
    }

    private static void run() {
        place = "promise 32";
        TwoEndQueues q = new TwoEndQueues();
        typeAll(q, "i5;i3;i-004;l;c0,-0;r1;g;b;");
        due("run()", q.run(), 8);
        due("size()", q.size(), 0);
        due("run() again: the text stays", q.run(), 8);
        due("undo(): one run, one record", q.undo(), 1);
        due("clearText()", q.clearText(), 27);
        typeAll(q, "l;g;r0;r99;c0,1;c30,1;");
        due("run() with all commands skipped", q.run(), 0);
        due("undo()", q.undo(), 1);
        q.clearText();
        typeAll(q, "i7;r1;i-8;c1,-0;c2,5;");
        due("run() with some skipped", q.run(), 3);
        due("key(0)", q.key(0), 7);
        due("key(1)", q.key(1), 0);
        runAgainstCalls();
        runWhenFull();
    }

    private static void runAgainstCalls() {
        TwoEndQueues q = new TwoEndQueues();
        q.fill(12, 3);
        TwoEndQueues byCalls = new TwoEndQueues();
        byCalls.fill(12, 3);
        typeAll(q, "i50;l;g;r4;c07,-99;b;i-100;g;");
        due("run()", q.run(), 8);
        byCalls.insert(50);
        byCalls.takeLeast();
        byCalls.takeGreatest();
        byCalls.remove(4);
        byCalls.change(7, -99);
        byCalls.build();
        byCalls.insert(-100);
        byCalls.takeGreatest();
        dueText("run() against calls", queues(q), queues(byCalls));
        due("undo()", q.undo(), 1);
        TwoEndQueues before = new TwoEndQueues();
        before.fill(12, 3);
        dueText("undo() of run()", queues(q), queues(before));
    }

    private static void runWhenFull() {
        TwoEndQueues q = new TwoEndQueues();
        q.fill(29, 8);
        typeAll(q, "i1;i2;i3;l;i4;");
        due("run() skips what does not fit", q.run(), 3);
        due("size()", q.size(), 30);
    }

    private static void undo() {
        place = "promise 33";
        TwoEndQueues q = new TwoEndQueues();
        for (int i = 0; i < 7; i++) {
            q.insert(i);
        }
        typeAll(q, "ab");
        for (int left = 4; left >= 0; left--) {
            due("undo()", q.undo(), left);
            due("size()", q.size(), left + 2);
        }
        dueThrow(q, "undo(): older records are dropped", STATE, q::undo);
        due("clearText(): the text is not undone", q.clearText(), 2);
        q.insert(9);
        due("undo()", q.undo(), 0);
        dueText("all", queues(q), queues(with(0, 1)));
        q.insert(1);
        try {
            q.insert(1000);
        } catch (IllegalArgumentException e) {
            // it makes no record
        }
        q.size();
        q.greatest(1);
        q.wouldNeed(0, 1, 0);
        q.sortingNeeds(0);
        due("undo(): only undoable calls make a record", q.undo(), 0);
    }

    /** Every undoable call makes one record, and undo() brings all of it back. */
    private static void undoOfEach() {
        for (int kind = 0; kind < 10; kind++) {
            TwoEndQueues q = new TwoEndQueues();
            q.fill(20, 31);
            typeAll(q, "l;g;b;");
            String before = trace(q);
            switch (kind) {
                case 0: q.insert(5); break;
                case 1: q.takeLeast(); break;
                case 2: q.takeGreatest(); break;
                case 3: q.remove(9); break;
                case 4: q.change(9, 500); break;
                case 5: q.build(); break;
                case 6: q.clear(); break;
                case 7: q.fill(5, 5); break;
                case 8: q.disturb(1, 0, 19); break;
                default: q.run(); break;
            }
            due("undo() of kind " + kind, q.undo(), 1);
            dueSame(q, "undo() of kind " + kind, before);
            q.forget();
            due("undo() of forget()", q.undo(), 1);
            dueSame(q, "undo() of forget()", before);
        }
    }

    private static void checksum() {
        place = "promise 34";
        TwoEndQueues q = new TwoEndQueues();
        due("checksum() of a new object", q.checksum(), checksumOf(0, 0, 0, 0, 0, 0, 0, 0, 0, 0, 0));
        TwoEndQueues three = with(5, -3, 4);
        typeAll(three, "l;");
        due("checksum()", three.checksum(),
            checksumOf(3, 7, 5, -3, 4, 1, 0, 2, 0, 1, 0, 2, 0, 1, 0, 2, 0, 0, 1, 2, 0, 3, 2, 4, 2, 3));
        three.disturb(0, 0, 1);
        three.remove(0);
        // layout 0 is [0, 1, 2] before, so the last item comes to 0 and order(0) finds -3 less than 4
        due("checksum() with a gap in the handles", three.checksum(),
            checksumOf(2, 6, -3, 4, 1, 2, 0, 1, 2, 0, 1, 2, 0, 2, 1, 0, 6, 3, 6, 2, 5));
    }
}
