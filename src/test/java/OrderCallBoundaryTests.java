/** A test for each sentence of the promises 13 to 23 that names a boundary. */
public final class OrderCallBoundaryTests extends Tests {
    private static final String LEAST = "Promise 13: least";
    private static final String GREATEST = "Promise 14: greatest";
    private static final String RANKED = "Promise 15: ranked";
    private static final String RANK = "Promise 16: rank";
    private static final String BETWEEN = "Promise 17: between";
    private static final String AT = "Promise 18: at";
    private static final String WHERE = "Promise 19: where";
    private static final String VIOLATIONS = "Promise 20: violations";
    private static final String DISTURB = "Promise 21: disturb";
    private static final String LEVEL = "Promise 22: level";
    private static final String ANCESTORS = "Promise 23: ancestors";

    public static void main(String[] args) {
        runSentences(OrderCallBoundaryTests.class);
    }

    @Sentence(of = LEAST, says = "Returns its handle; NONE if there is no item.")
    static void leastOrNone() {
        for (int queue = 0; queue < 3; queue++) {
            TwoEndQueues q = new TwoEndQueues();
            due("least(" + queue + ") without items", q.least(queue), NONE);
            q.insert(999);
            due("least(" + queue + ") of one", q.least(queue), 0);
            q.insert(-999);
            due("least(" + queue + ") of two", q.least(queue), 1);
            q.clear();
            due("least(" + queue + ") behind clear()", q.least(queue), NONE);
        }
    }

    @Sentence(of = LEAST, says = "Throws `IllegalArgumentException` if there is no such queue")
    static void leastOfNoQueue() {
        TwoEndQueues q = with(5);
        dueThrows(q, "least()", ARGUMENT, q::least, NO_QUEUES);
        TwoEndQueues empty = new TwoEndQueues();
        dueThrows(empty, "least() without items", ARGUMENT, empty::least, NO_QUEUES);
    }

    @Sentence(of = GREATEST, says = "by its layout; nothing is counted")
    static void greatestCountsNothing() {
        TwoEndQueues q = full();
        String before = trace(q);
        for (int queue = 0; queue < 3; queue++) {
            q.greatest(queue);
        }
        dueSame(q, "greatest()", before);
    }

    @Sentence(of = GREATEST, says = "Returns its handle; NONE if there is no item.")
    static void greatestOrNone() {
        for (int queue = 0; queue < 3; queue++) {
            TwoEndQueues q = new TwoEndQueues();
            due("greatest(" + queue + ") without items", q.greatest(queue), NONE);
            q.insert(-999);
            due("greatest(" + queue + ") of one", q.greatest(queue), 0);
            q.insert(999);
            due("greatest(" + queue + ") of two", q.greatest(queue), 1);
            q.insert(999);
            due("greatest(" + queue + ") of three", q.greatest(queue), 2);
            q.clear();
            due("greatest(" + queue + ") behind clear()", q.greatest(queue), NONE);
        }
    }

    @Sentence(of = GREATEST, says = "Throws `IllegalArgumentException` if there is no such queue")
    static void greatestOfNoQueue() {
        TwoEndQueues q = with(5);
        dueThrows(q, "greatest()", ARGUMENT, q::greatest, NO_QUEUES);
        TwoEndQueues empty = new TwoEndQueues();
        dueThrows(empty, "greatest() without items", ARGUMENT, empty::greatest, NO_QUEUES);
    }

    @Sentence(of = RANKED, says = "Returns its handle; NONE if there is no such place.")
    static void rankedOrNone() {
        due("ranked(0) without items", new TwoEndQueues().ranked(0), NONE);
        due("ranked(-1) without items", new TwoEndQueues().ranked(-1), NONE);
        TwoEndQueues q = with(5, -999, 5, 999);
        due("ranked(0)", q.ranked(0), 1);
        due("ranked(1)", q.ranked(1), 0);
        due("ranked(2)", q.ranked(2), 2);
        due("ranked(3)", q.ranked(3), 3);
        for (int nth : new int[] {MIN, -1, 4, 5, 29, 30, MAX}) {
            due("ranked(" + nth + ")", q.ranked(nth), NONE);
        }
        TwoEndQueues thirty = full();
        due("rank(ranked(29))", thirty.rank(thirty.ranked(29)), 29);
        due("ranked(30)", thirty.ranked(30), NONE);
    }

    @Sentence(of = RANK, says = "Returns its place, from 0.")
    static void rankFromZero() {
        due("rank(0) of one", with(7).rank(0), 0);
        TwoEndQueues q = with(999, -999, 999);
        due("rank(1)", q.rank(1), 0);
        due("rank(0)", q.rank(0), 1);
        due("rank(2)", q.rank(2), 2);
        for (int layout = 0; layout < 4; layout++) {
            q.disturb(layout, 0, 2);
        }
        due("rank(1) in disturbed layouts", q.rank(1), 0);
    }

    @Sentence(of = RANK, says = "Throws `IndexOutOfBoundsException` if there is no such item")
    static void rankOfNoItem() {
        TwoEndQueues q = full();
        dueThrows(q, "rank()", INDEX, q::rank, NO_HANDLES);
        q.remove(29);
        dueThrow(q, "rank(29)", INDEX, () -> q.rank(29));
        TwoEndQueues empty = new TwoEndQueues();
        dueThrows(empty, "rank() without items", INDEX, empty::rank, 0, -1);
    }

    @Sentence(of = BETWEEN, says = "Counts the items with a key in a range.")
    static void between() {
        TwoEndQueues q = with(-999, -1, 0, 0, 1, 999);
        due("between(0, 0)", q.between(0, 0), 2);
        due("between(-1, 1)", q.between(-1, 1), 4);
        due("between(1, -1)", q.between(1, -1), 0);
        due("between(1, 0)", q.between(1, 0), 0);
        due("between(-999, -999)", q.between(-999, -999), 1);
        due("between(999, 999)", q.between(999, 999), 1);
        due("between(-998, 998)", q.between(-998, 998), 4);
        due("between(MIN, MAX)", q.between(MIN, MAX), 6);
        due("between(MIN, MIN)", q.between(MIN, MIN), 0);
        due("between(MAX, MAX)", q.between(MAX, MAX), 0);
        due("between(MAX, MIN)", q.between(MAX, MIN), 0);
        due("between(MIN, -999)", q.between(MIN, -999), 1);
        due("between(999, MAX)", q.between(999, MAX), 1);
        due("between() without items", new TwoEndQueues().between(MIN, MAX), 0);
    }

    @Sentence(of = AT, says = "Returns its handle; NONE if there is no such position.")
    static void atOrNone() {
        TwoEndQueues q = new TwoEndQueues();
        q.fill(29, 4);
        for (int layout = 0; layout < 4; layout++) {
            due("at(" + layout + ", 0) without items", new TwoEndQueues().at(layout, 0), NONE);
            for (int position : new int[] {0, 28}) {
                due("where(at(" + layout + ", " + position + "))", q.where(layout, q.at(layout, position)), position);
            }
            for (int position : new int[] {MIN, -1, 29, 30, 31, MAX}) {
                due("at(" + layout + ", " + position + ") of 29", q.at(layout, position), NONE);
            }
        }
        TwoEndQueues taken = with(5, 6);
        taken.takeLeast();
        due("at(0, 1) behind takeLeast()", taken.at(0, 1), NONE);
    }

    @Sentence(of = AT, says = "Throws `IllegalArgumentException` if there is no such layout")
    static void atNoLayout() {
        TwoEndQueues q = with(5);
        dueThrows(q, "at(layout, 0)", ARGUMENT, layout -> q.at(layout, 0), NO_LAYOUTS);
        dueThrows(q, "at(layout, 30)", ARGUMENT, layout -> q.at(layout, 30), NO_LAYOUTS);
    }

    @Sentence(of = WHERE, says = "Throws `IllegalArgumentException` if there is no such layout")
    static void whereNoLayout() {
        TwoEndQueues q = with(5);
        dueThrows(q, "where(layout, 0)", ARGUMENT, layout -> q.where(layout, 0), NO_LAYOUTS);
        dueThrows(q, "where(layout, 1)", ARGUMENT, layout -> q.where(layout, 1), NO_LAYOUTS);
    }

    @Sentence(of = WHERE, says = "Throws `IndexOutOfBoundsException` if there is no such item")
    static void whereNoItem() {
        for (int layout = 0; layout < 4; layout++) {
            int asked = layout;
            TwoEndQueues q = full();
            due("at(where(29))", q.at(layout, q.where(layout, 29)), 29);
            dueThrows(q, "where(" + layout + ", handle)", INDEX, handle -> q.where(asked, handle), NO_HANDLES);
            q.remove(29);
            dueThrow(q, "where(" + layout + ", 29)", INDEX, () -> q.where(asked, 29));
        }
    }

    @Sentence(of = VIOLATIONS, says = "Counts the violations of a layout.")
    static void violations() {
        for (int layout = 0; layout < 4; layout++) {
            due("violations(" + layout + ") without items", new TwoEndQueues().violations(layout), 0);
            TwoEndQueues q = full();
            due("violations(" + layout + ") of 30", q.violations(layout), 0);
            String before = trace(q);
            q.violations(layout);
            dueSame(q, "violations(" + layout + ")", before);
        }
    }

    @Sentence(of = VIOLATIONS, says = "Throws `IllegalArgumentException` if there is no such layout")
    static void violationsOfNoLayout() {
        TwoEndQueues q = new TwoEndQueues();
        dueThrows(q, "violations()", ARGUMENT, q::violations, NO_LAYOUTS);
    }

    @Sentence(of = DISTURB, says = "Exchanges two positions of a layout, whatever rules that breaks.")
    static void disturbBreaksRules() {
        TwoEndQueues q = laid(2, upTo(30));
        String others = row(q, 0) + row(q, 1) + row(q, 3) + counts(q);
        due("disturb(2, 0, 29)", q.disturb(2, 0, 29), 3);
        due("at(2, 0)", q.at(2, 0), 29);
        due("at(2, 29)", q.at(2, 29), 0);
        dueText("the other layouts, and the counts", row(q, 0) + row(q, 1) + row(q, 3) + counts(q), others);
        due("disturb(2, 29, 0)", q.disturb(2, 29, 0), 0);
        due("at(2, 0)", q.at(2, 0), 0);
    }

    @Sentence(of = DISTURB, says = "a position, possibly the same")
    static void disturbTheSame() {
        for (int layout = 0; layout < 4; layout++) {
            TwoEndQueues q = full();
            String before = row(q, layout);
            due("disturb(" + layout + ", 0, 0)", q.disturb(layout, 0, 0), 0);
            due("disturb(" + layout + ", 29, 29)", q.disturb(layout, 29, 29), 0);
            dueText("layout " + layout, row(q, layout), before);
        }
    }

    @Sentence(of = DISTURB, says = "Throws `IllegalArgumentException` if there is no such layout")
    static void disturbNoLayout() {
        TwoEndQueues q = with(5);
        dueThrows(q, "disturb(layout, 0, 0)", ARGUMENT, layout -> q.disturb(layout, 0, 0), NO_LAYOUTS);
        dueThrows(q, "disturb(layout, 1, -1)", ARGUMENT, layout -> q.disturb(layout, 1, -1), NO_LAYOUTS);
    }

    @Sentence(of = DISTURB, says = "Throws `IndexOutOfBoundsException` if one of the positions does not exist")
    static void disturbNoPosition() {
        TwoEndQueues empty = new TwoEndQueues();
        dueThrow(empty, "disturb(0, 0, 0) without items", INDEX, () -> empty.disturb(0, 0, 0));
        for (int n : new int[] {29, 30}) {
            TwoEndQueues q = new TwoEndQueues();
            q.fill(n, 4);
            int[] wrong = {MIN, -1, n, n + 1, MAX};
            dueThrows(q, "disturb(3, position, 0)", INDEX, position -> q.disturb(3, position, 0), wrong);
            dueThrows(q, "disturb(3, 0, position)", INDEX, position -> q.disturb(3, 0, position), wrong);
            dueThrows(q, "disturb(3, position, position)", INDEX, position -> q.disturb(3, position, position), wrong);
            int last = q.at(3, n - 1);
            q.disturb(3, 0, n - 1);
            due("at(3, 0) behind disturb(3, 0, n - 1)", q.at(3, 0), last);
        }
    }

    @Sentence(of = LEVEL, says = "the position, 0 to 1000000")
    static void levelUpToAMillion() {
        TwoEndQueues q = new TwoEndQueues();
        due("level(0)", q.level(0), 0);
        for (int level = 1; level <= 19; level++) {
            int first = (1 << level) - 1;
            due("level(" + (first - 1) + ")", q.level(first - 1), level - 1);
            due("level(" + first + ")", q.level(first), level);
        }
        due("level(999999)", q.level(999999), 19);
        due("level(1000000)", q.level(1000000), 19);
    }

    @Sentence(of = LEVEL, says = "Throws `IllegalArgumentException` if position is out of range")
    static void levelOutOfRange() {
        TwoEndQueues q = new TwoEndQueues();
        dueThrows(q, "level()", ARGUMENT, q::level, MIN, -1, 1000001, 1048575, MAX);
    }

    @Sentence(of = ANCESTORS, says = "(by parents; the item itself does not count)")
    static void ancestors() {
        due("ancestors(0) of one", with(5).ancestors(0), 0);
        TwoEndQueues q = with(upTo(30));
        lay(q, 2, upTo(30));
        lay(q, 3, upTo(30));
        due("ancestors(0), at position 0 of both", q.ancestors(0), 0);
        due("ancestors(1)", q.ancestors(1), 1);
        due("ancestors(14): 6, 2 and 0", q.ancestors(14), 3);
        due("ancestors(15): 7, 3, 1 and 0", q.ancestors(15), 4);
        due("ancestors(29): 14, 6, 2 and 0", q.ancestors(29), 4);
        q.disturb(3, 14, 13);
        due("ancestors(29) without 14", q.ancestors(29), 3);
        q.disturb(3, 0, 29);
        due("ancestors(29), at position 0 of layout 3", q.ancestors(29), 0);
        // above 0 stand 13, 6, 2 and 29 in layout 3, and none in layout 2
        due("ancestors(0), at position 0 of layout 2", q.ancestors(0), 0);
    }

    @Sentence(of = ANCESTORS, says = "Throws `IndexOutOfBoundsException` if there is no such item")
    static void ancestorsOfNoItem() {
        TwoEndQueues q = full();
        dueThrows(q, "ancestors()", INDEX, q::ancestors, NO_HANDLES);
        q.remove(29);
        dueThrow(q, "ancestors(29)", INDEX, () -> q.ancestors(29));
        TwoEndQueues empty = new TwoEndQueues();
        dueThrows(empty, "ancestors() without items", INDEX, empty::ancestors, 0, -1);
    }
}
