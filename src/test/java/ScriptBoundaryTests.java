import java.util.List;

/** A test for each sentence on scripts, undo and exceptions that names a boundary. */
public final class ScriptBoundaryTests extends Tests {
    private static final String SCRIPTS = "SCRIPTS";
    private static final String UNDO = "UNDO";
    private static final String EXCEPTIONS = "EXCEPTIONS";

    public static void main(String[] args) {
        runSentences(ScriptBoundaryTests.class);
    }

    private static void dueFault(String text, int want) {
        due("fault() of " + text, typed(text).fault(), want);
    }

    private static void dueScripts(String... texts) {
        for (String text : texts) {
            dueFault(text, NONE);
        }
    }

    @Sentence(of = SCRIPTS, says = "The text buffer holds at most 120 characters with codes from 32 to 126.")
    static void bufferOf120() {
        TwoEndQueues q = new TwoEndQueues();
        dueThrow(q, "type(31)", ARGUMENT, () -> q.type(31));
        dueThrow(q, "type(127)", ARGUMENT, () -> q.type(127));
        for (int length = 1; length <= 120; length++) {
            due("type()", q.type(length % 2 == 0 ? 32 : 126), length);
        }
        dueThrow(q, "type(32) with 120 characters", STATE, () -> q.type(32));
        dueFault("b;".repeat(60), NONE);
        due("run() of 120 characters", typed("b;".repeat(60)).run(), 60);
    }

    @Sentence(of = SCRIPTS, says = "A script consists of commands, perhaps none, each with \";\" behind it")
    static void commandsPerhapsNone() {
        dueScripts("", "b;", "b;b;", "i1;l;");
        dueFault(";", 0);
        dueFault("b", 1);
        dueFault("b;;", 2);
        dueFault("b;b", 3);
        dueFault("bb;", 1);
        due("run() of no commands", new TwoEndQueues().run(), 0);
    }

    @Sentence(of = SCRIPTS,
        says = "i key: insert()     l: takeLeast()     g: takeGreatest()     r handle: remove()     c handle,key: change()     b: build()")
    static void sixCommands() {
        dueScripts("i5;", "l;", "g;", "r5;", "c5,5;", "b;");
        for (char c = 32; c <= 126; c++) {
            if ("ilgrcb".indexOf(c) < 0) {
                dueFault(c + "5;", 0);
            }
        }
        TwoEndQueues q = with(10, 20, 30, 40);
        typeAll(q, "i5;c0,15;l;g;r1;b;");
        due("run()", q.run(), 6);
        due("handles(): 4 went as the least, 3 as the greatest, 1 by its handle", q.handles(), 5);
        due("key(0)", q.key(0), 15);
        TwoEndQueues calls = with(10, 20, 30, 40);
        calls.insert(5);
        calls.change(0, 15);
        calls.takeLeast();
        calls.takeGreatest();
        calls.remove(1);
        calls.build();
        dueText("the queues", queues(q), queues(calls));
    }

    @Sentence(of = SCRIPTS, says = "A key is a number with 1 to 3 digits, perhaps with \"-\" ahead")
    static void keysInScripts() {
        dueScripts("i1;", "i12;", "i123;", "i-1;", "i-12;", "i-123;", "i999;", "i-999;", "c1,1;", "c1,999;", "c1,-1;", "c1,-999;");
        dueFault("i;", 1);
        dueFault("i-;", 2);
        dueFault("i--1;", 2);
        dueFault("i1-;", 2);
        dueFault("i+1;", 1);
        dueFault("c1,;", 3);
        dueFault("c1,-;", 4);
        TwoEndQueues q = typed("i999;i-999;i7;c2,-12;");
        due("run()", q.run(), 4);
        due("key(0)", q.key(0), 999);
        due("key(1)", q.key(1), -999);
        due("key(2)", q.key(2), -12);
    }

    @Sentence(of = SCRIPTS, says = "a handle is a number with 1 or 2 digits")
    static void handlesInScripts() {
        dueScripts("r0;", "r9;", "r10;", "r29;", "r99;", "c0,1;", "c29,1;", "c99,1;");
        dueFault("r;", 1);
        dueFault("r-1;", 1);
        dueFault("c,1;", 1);
        dueFault("c-1,1;", 1);
        TwoEndQueues q = new TwoEndQueues();
        q.fill(30, 1);
        typeAll(q, "r29;r0;c10,-7;");
        due("run()", q.run(), 3);
        due("handles()", q.handles(), (1 << 29) - 2);
        due("key(10)", q.key(10), -7);
    }

    /** "-0" is a key; a handle has no sign. */
    @Sentence(of = SCRIPTS, says = "zeros in front are allowed, also \"-0\"")
    static void zerosInFront() {
        dueScripts("i0;", "i00;", "i000;", "i-0;", "i-00;", "i-000;", "i007;", "i-07;", "r00;", "r01;", "c00,-0;", "c01,001;");
        dueFault("r-0;", 1);
        TwoEndQueues q = typed("i-0;i007;i-08;i000;c03,-00;r01;");
        due("run()", q.run(), 6);
        due("handles()", q.handles(), 13);
        due("key(0)", q.key(0), 0);
        due("key(2)", q.key(2), -8);
        due("key(3)", q.key(3), 0);
    }

    @Sentence(of = SCRIPTS, says = "a handle that no item has is no fault")
    static void handleWithoutItem() {
        dueScripts("r0;", "r30;", "r31;", "r99;", "c0,0;", "c30,0;", "c99,0;");
        TwoEndQueues q = typed("r0;r30;c32,1;i5;r32;c99,7;r64;");
        due("run()", q.run(), 1);
        due("key(0)", q.key(0), 5);
    }

    @Sentence(of = SCRIPTS, says = "Numbers have as many digits as possible (one digit more is not allowed).")
    static void oneDigitMore() {
        dueFault("i1234;", 4);
        dueFault("i-1234;", 5);
        dueFault("i0000;", 4);
        dueFault("r123;", 3);
        dueFault("r000;", 3);
        dueFault("c123,1;", 3);
        dueFault("c1,1234;", 6);
        dueFault("c1,-1234;", 7);
        TwoEndQueues q = typed("i123;");
        q.run();
        due("key(0)", q.key(0), 123);
    }

    @Sentence(of = SCRIPTS, says = "There are no spaces.")
    static void noSpaces() {
        dueFault(" ", 0);
        dueFault(" l;", 0);
        dueFault("l ;", 1);
        dueFault("l; ", 2);
        dueFault("i 1;", 1);
        dueFault("i- 1;", 2);
        dueFault("i1 ;", 2);
        dueFault("r 1;", 1);
        dueFault("c1 ,1;", 2);
        dueFault("c1, 1;", 3);
    }

    /** At each place of each command, each of the 95 characters. */
    @Sentence(of = SCRIPTS, says = "The fault of the text is the index of the first character that is not allowed at its place")
    static void firstCharacterNotAllowed() {
        String digits = "0123456789";
        String[][] places = {
            {"", "ilgrcb"}, {"l;", "ilgrcb"}, {"l", ";"}, {"g", ";"}, {"b", ";"},
            {"i", "-" + digits}, {"i-", digits}, {"i1", digits + ";"}, {"i12", digits + ";"}, {"i123", ";"},
            {"i-1", digits + ";"}, {"i-12", digits + ";"}, {"i-123", ";"},
            {"r", digits}, {"r1", digits + ";"}, {"r12", ";"},
            {"c", digits}, {"c1", digits + ","}, {"c12", ","}, {"c1,", "-" + digits}, {"c12,", "-" + digits}, {"c1,-", digits},
            {"c1,1", digits + ";"}, {"c1,12", digits + ";"}, {"c1,123", ";"}, {"c12,-123", ";"},
        };
        for (String[] row : places) {
            for (char c = 32; c <= 126; c++) {
                int length = row[0].length();
                int allowed = c == ';' ? NONE : length + 1;
                dueFault(row[0] + c, row[1].indexOf(c) < 0 ? length : allowed);
            }
        }
        // the first of several, and at the last index
        dueFault("l;x;y;", 2);
        dueFault("xxx", 0);
        dueFault("b;".repeat(59) + "bb", 119);
    }

    @Sentence(of = SCRIPTS, says = "it is the length of the text if the text ends too early")
    static void endsTooEarly() {
        String[] starts = {"i", "i-", "i1", "i-1", "i123", "l", "g", "b", "r", "r1", "r12", "c", "c1", "c12", "c1,", "c1,-", "c1,1"};
        for (String start : starts) {
            dueFault(start, start.length());
            dueFault("l;" + start, start.length() + 2);
        }
        dueFault("i12;".repeat(29) + "l;l", 119);
        dueFault("i12;".repeat(29) + "i123", 120);
        dueFault("i12;".repeat(29) + "i12;", NONE);
    }

    private static final List<String> UNDOABLE = List.of(
        "insert", "takeLeast", "takeGreatest", "remove", "change", "build", "clear", "fill", "disturb", "forget", "run");

    private static void callUndoable(TwoEndQueues q, String name) {
        switch (name) {
            case "insert": q.insert(5); break;
            case "takeLeast": q.takeLeast(); break;
            case "takeGreatest": q.takeGreatest(); break;
            case "remove": q.remove(9); break;
            case "change": q.change(9, 500); break;
            case "build": q.build(); break;
            case "clear": q.clear(); break;
            case "fill": q.fill(5, 5); break;
            case "disturb": q.disturb(1, 0, 19); break;
            case "forget": q.forget(); break;
            default: q.run(); break;
        }
    }

    @Sentence(of = UNDO, says = "Every method that is marked \"undoable\"")
    static void onlyMarkedMethodsRecord() {
        for (String name : UNDOABLE) {
            TwoEndQueues q = new TwoEndQueues();
            q.fill(20, 31);
            callUndoable(q, name);
            due("undo() of " + name, q.undo(), 1);
        }
        TwoEndQueues q = with(5);
        q.undo();
        q.insert(6);
        List<Call> unmarked = List.of(
            q::size, q::handles, () -> q.key(0), () -> q.least(0), () -> q.greatest(1), () -> q.ranked(0), () -> q.rank(0),
            () -> q.between(0, 9), () -> q.at(0, 0), () -> q.where(0, 0), () -> q.violations(1), () -> q.level(7),
            () -> q.ancestors(0), () -> q.comparisons(0), () -> q.wouldNeed(0, 4, 0), () -> q.sortingNeeds(0), q::fewest,
            () -> q.type('b'), q::clearText, q::fault, q::checksum);
        for (Call call : unmarked) {
            call.answer();
        }
        due("undo(): the record of insert() is the only one", q.undo(), 0);
        due("size()", q.size(), 0);
    }

    @Sentence(of = UNDO, says = "records the items, the layouts and the counts, as they were before the call")
    static void recordsAllButTheText() {
        for (String name : UNDOABLE) {
            TwoEndQueues q = new TwoEndQueues();
            q.fill(20, 31);
            typeAll(q, "l;g;i7;");
            String before = queues(q);
            callUndoable(q, name);
            due("the queues differ behind " + name, queues(q).equals(before) ? 0 : 1, 1);
            typeAll(q, "b;");
            due("undo() of " + name, q.undo(), 1);
            dueText("the queues behind undo() of " + name, queues(q), before);
            due("clearText(): the text is not recorded", q.clearText(), 9);
        }
    }

    @Sentence(of = UNDO, says = "when it ends normally")
    static void noRecordOfARefusedCall() {
        TwoEndQueues full = new TwoEndQueues();
        full.fill(30, 3);
        typeAll(full, "x");
        dueThrow(full, "insert(0)", STATE, () -> full.insert(0));
        dueThrow(full, "insert(1000)", ARGUMENT, () -> full.insert(1000));
        dueThrow(full, "remove(30)", INDEX, () -> full.remove(30));
        dueThrow(full, "change(30, 0)", INDEX, () -> full.change(30, 0));
        dueThrow(full, "change(0, 1000)", ARGUMENT, () -> full.change(0, 1000));
        dueThrow(full, "fill(0, 0)", ARGUMENT, () -> full.fill(0, 0));
        dueThrow(full, "fill(1, 0)", STATE, () -> full.fill(1, 0));
        dueThrow(full, "disturb(4, 0, 0)", ARGUMENT, () -> full.disturb(4, 0, 0));
        dueThrow(full, "disturb(0, 30, 0)", INDEX, () -> full.disturb(0, 30, 0));
        dueThrow(full, "run() of x", ARGUMENT, full::run);
        due("undo(): the record of fill() is the latest", full.undo(), 0);
        due("size()", full.size(), 0);
        dueThrow(full, "takeLeast()", STATE, full::takeLeast);
        dueThrow(full, "takeGreatest()", STATE, full::takeGreatest);
        dueThrow(full, "undo() without a record", STATE, full::undo);
    }

    @Sentence(of = UNDO, says = "(also if nothing changes)")
    static void recordsAlsoIfNothingChanges() {
        TwoEndQueues empty = new TwoEndQueues();
        empty.build();
        empty.clear();
        empty.forget();
        empty.run();
        typeAll(empty, "l;");
        empty.run();
        for (int left = 4; left >= 0; left--) {
            due("undo() of build(), clear(), forget() and run(), without items", empty.undo(), left);
        }
        TwoEndQueues one = laid(0, 5);
        one.clear();
        one.insert(5);
        one.change(0, 5);
        one.disturb(2, 0, 0);
        due("undo() of disturb(2, 0, 0)", one.undo(), 4);
        due("undo() of change() to the same key", one.undo(), 3);
        due("size()", one.size(), 1);
    }

    @Sentence(of = UNDO, says = "At most 5 records are kept; when one more is made, the oldest is dropped.")
    static void fiveRecords() {
        for (int calls = 0; calls <= 13; calls++) {
            TwoEndQueues q = new TwoEndQueues();
            for (int call = 0; call < calls; call++) {
                q.insert(call);
            }
            int kept = Math.min(calls, 5);
            for (int left = kept - 1; left >= 0; left--) {
                due("undo() behind " + calls + " calls", q.undo(), left);
                due("size()", q.size(), calls - kept + left);
            }
            dueThrow(q, "undo() once more behind " + calls + " calls", STATE, q::undo);
            due("size()", q.size(), calls - kept);
        }
        // five, two of them undone, three more: six, of which the oldest is dropped
        TwoEndQueues q = with(0, 1, 2, 3, 4);
        q.undo();
        q.undo();
        q.fill(3, 1);
        q.clear();
        q.insert(9);
        int[] sizes = {0, 6, 3, 2, 1};
        for (int nth = 0; nth < 5; nth++) {
            due("undo()", q.undo(), 4 - nth);
            due("size()", q.size(), sizes[nth]);
        }
        dueThrow(q, "undo(): the oldest was dropped", STATE, q::undo);
    }

    @Sentence(of = UNDO, says = "undo() restores the latest one and removes it.")
    static void latestRecord() {
        TwoEndQueues q = with(1);
        String first = queues(q);
        q.insert(2);
        String second = queues(q);
        q.insert(3);
        due("undo()", q.undo(), 2);
        dueText("the queues", queues(q), second);
        due("undo()", q.undo(), 1);
        dueText("the queues", queues(q), first);
        q.insert(4);
        due("undo() makes no record of its own", q.undo(), 1);
        dueText("the queues", queues(q), first);
        due("undo()", q.undo(), 0);
        due("size()", q.size(), 0);
        dueThrow(q, "undo(): none is left", STATE, q::undo);
    }

    /** Both answer the same from here on: all that can be seen, the text by running it, and every record. */
    private static void dueTwins(TwoEndQueues one, TwoEndQueues other) {
        dueText("the queues", queues(one), queues(other));
        due("checksum()", one.checksum(), other.checksum());
        due("fault()", one.fault(), other.fault());
        if (one.fault() == NONE && other.fault() == NONE) {
            due("run()", one.run(), other.run());
            due("checksum() behind run()", one.checksum(), other.checksum());
        }
        for (int left = 4; left >= 0; left--) {
            due("undo()", one.undo(), left);
            due("undo() of the other", other.undo(), left);
            due("checksum() behind undo()", one.checksum(), other.checksum());
        }
        due("clearText()", one.clearText(), other.clearText());
    }

    /** 30 items, disturbed layouts, five records, and a script of 120 characters. */
    private static TwoEndQueues busy() {
        TwoEndQueues q = new TwoEndQueues();
        q.fill(20, 17);
        q.disturb(0, 0, 19);
        q.disturb(1, 3, 7);
        q.change(4, -999);
        q.takeGreatest();
        q.fill(11, 18);
        typeAll(q, "l;i50;g;c3,-9;b;r7;".repeat(6) + "b;b;b;");
        return q;
    }

    @Sentence(of = EXCEPTIONS, says = "A call that throws an exception changes nothing.")
    static void refusedCallsChangeNothing() {
        TwoEndQueues q = busy();
        List<Call> refused = List.of(
            () -> q.insert(1000), () -> q.insert(0), () -> q.remove(30), () -> q.change(30, 5), () -> q.change(5, -1000),
            () -> q.key(-1), () -> q.fill(31, 0), () -> q.fill(1, -1), () -> q.fill(1, 1), () -> q.least(3), () -> q.greatest(-1),
            () -> q.rank(30), () -> q.at(4, 0), () -> q.where(-1, 0), () -> q.where(0, 30), () -> q.violations(4),
            () -> q.disturb(4, 0, 1), () -> q.disturb(0, 0, 30), () -> q.disturb(0, -1, 1), () -> q.level(-1), () -> q.level(1000001),
            () -> q.ancestors(30), () -> q.comparisons(3), () -> q.wouldNeed(3, 4, 0), () -> q.wouldNeed(0, 5, 0),
            () -> q.sortingNeeds(3), () -> q.type(31), () -> q.type('b'));
        for (Call call : refused) {
            dueRefused(call);
        }
        dueTwins(q, busy());

        TwoEndQueues faulty = busy();
        faulty.clear();
        faulty.clearText();
        typeAll(faulty, "i5;x");
        dueRefused(faulty::takeLeast);
        dueRefused(faulty::takeGreatest);
        dueRefused(faulty::run);
        TwoEndQueues twin = busy();
        twin.clear();
        twin.clearText();
        typeAll(twin, "i5;x");
        dueTwins(faulty, twin);

        TwoEndQueues noRecord = new TwoEndQueues();
        noRecord.insert(5);
        noRecord.undo();
        dueRefused(noRecord::undo);
        due("size() behind a refused undo()", noRecord.size(), 0);
    }

    private static void dueRefused(Call call) {
        try {
            tellWrong("a call that is to be refused answered " + call.answer());
        } catch (IllegalArgumentException | IllegalStateException | IndexOutOfBoundsException e) {
            // as due
        }
    }

    @Sentence(of = EXCEPTIONS, says = "If several exceptions of a method apply, the one that is listed first is thrown.")
    static void firstListedException() {
        TwoEndQueues q = new TwoEndQueues();
        q.fill(30, 1);
        dueThrow(q, "insert(1000) with 30 items", ARGUMENT, () -> q.insert(1000));
        dueThrow(q, "change(30, 1000)", INDEX, () -> q.change(30, 1000));
        dueThrow(q, "fill(31, 0) with 30 items", ARGUMENT, () -> q.fill(31, 0));
        dueThrow(q, "fill(1, -1) with 30 items", ARGUMENT, () -> q.fill(1, -1));
        dueThrow(q, "where(4, 30)", ARGUMENT, () -> q.where(4, 30));
        dueThrow(q, "disturb(4, 30, 0)", ARGUMENT, () -> q.disturb(4, 30, 0));
        dueThrow(q, "disturb(-1, 0, 30)", ARGUMENT, () -> q.disturb(-1, 0, 30));
        typeAll(q, "b".repeat(120));
        dueThrow(q, "type(127) with 120 characters", ARGUMENT, () -> q.type(127));
    }

    @Sentence(of = EXCEPTIONS, says = "NONE is returned only if no exception applies.")
    static void exceptionBeforeNone() {
        TwoEndQueues q = new TwoEndQueues();
        dueThrow(q, "least(3) without items", ARGUMENT, () -> q.least(3));
        dueThrow(q, "greatest(3) without items", ARGUMENT, () -> q.greatest(3));
        dueThrow(q, "at(4, 0) without items", ARGUMENT, () -> q.at(4, 0));
        dueThrow(q, "wouldNeed(3, 1, 0) without items", ARGUMENT, () -> q.wouldNeed(3, 1, 0));
        dueThrow(q, "wouldNeed(-1, 3, 0) without items", ARGUMENT, () -> q.wouldNeed(-1, 3, 0));
        dueThrow(q, "wouldNeed(0, 5, 1000) without items", ARGUMENT, () -> q.wouldNeed(0, 5, 1000));
    }

    @Sentence(of = "The constants:", says = "`NONE = -1`: Returned where there is no such thing.")
    static void none() {
        due("NONE", TwoEndQueues.NONE, -1);
        TwoEndQueues q = new TwoEndQueues();
        due("least(0)", q.least(0), TwoEndQueues.NONE);
        due("greatest(2)", q.greatest(2), TwoEndQueues.NONE);
        due("ranked(0)", q.ranked(0), TwoEndQueues.NONE);
        due("at(3, 0)", q.at(3, 0), TwoEndQueues.NONE);
        due("wouldNeed(1, 1, 0)", q.wouldNeed(1, 1, 0), TwoEndQueues.NONE);
        due("fault()", q.fault(), TwoEndQueues.NONE);
    }
}
