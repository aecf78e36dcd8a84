import java.io.IOException;
import java.lang.annotation.Retention;
import java.lang.annotation.RetentionPolicy;
import java.lang.reflect.InvocationTargetException;
import java.lang.reflect.Method;
import java.nio.file.Files;
import java.nio.file.Path;
import java.util.ArrayList;
import java.util.HashMap;
import java.util.List;
import java.util.Map;

/** What the project's tests share. A test extends it, since a class without a package can't be imported. */
abstract class Tests {
    static final Class<? extends RuntimeException> ARGUMENT = IllegalArgumentException.class;
    static final Class<? extends RuntimeException> STATE = IllegalStateException.class;
    static final Class<? extends RuntimeException> INDEX = IndexOutOfBoundsException.class;
    static final int MIN = Integer.MIN_VALUE;
    static final int MAX = Integer.MAX_VALUE;
    static final int NONE = -1;

    static final int[] NO_QUEUES = {MIN, -1, 3, 4, 256, MAX};
    static final int[] NO_LAYOUTS = {MIN, -1, 4, 5, 256, MAX};
    /** No item has these, even if there are 30; 32 and 64 would be 0 if only five bits were looked at. */
    static final int[] NO_HANDLES = {MIN, -32, -1, 30, 31, 32, 64, MAX};

    private static final Path DOCUMENT = Path.of("../shared/DOC.md");
    private static final int MOST_SECONDS = 300;

    /** What is being tested; it is told with every wrong answer. */
    static String place = "";
    private static int wrong = 0;

    static {
        watchTheClock();
    }

    /** A sentence of the document, or a part of one, that the marked method is the test of. */
    @Retention(RetentionPolicy.RUNTIME)
    @interface Sentence {
        /** The heading that it stands under. */
        String of();

        String says();
    }

    interface Call {
        long answer();
    }

    interface CallWith {
        long answer(int value);
    }

    /** A call that does not end is a wrong answer too. */
    private static void watchTheClock() {
        Thread watch = new Thread(() -> {
            try {
                Thread.sleep(1000L * MOST_SECONDS);
            } catch (InterruptedException e) {
                return;
            }
            System.out.println(place + ": not at its end after " + MOST_SECONDS + " seconds");
            Runtime.getRuntime().halt(1);
        });
        watch.setDaemon(true);
        watch.start();
    }

    static void tellWrong(String what) {
        wrong++;
        System.out.println(place + ": " + what);
    }

    static void due(String what, long got, long want) {
        if (got != want) {
            tellWrong(what + " answered " + got + ", due is " + want);
        }
    }

    static void dueText(String what, String got, String want) {
        if (!got.equals(want)) {
            tellWrong(what + " is " + got + ", due is " + want);
        }
    }

    /** The call throws exactly this, and changes nothing that the checksum and the fault show. */
    static void dueThrow(TwoEndQueues q, String what, Class<? extends RuntimeException> want, Call call) {
        String before = trace(q);
        String got = "an answer";
        try {
            call.answer();
        } catch (RuntimeException e) {
            got = e.getClass().getSimpleName();
        }
        if (!got.equals(want.getSimpleName())) {
            tellWrong(what + " gave " + got + ", due is " + want.getSimpleName());
        }
        if (!trace(q).equals(before)) {
            tellWrong(what + " threw and changed something");
        }
    }

    static void dueThrows(TwoEndQueues q, String what, Class<? extends RuntimeException> want, CallWith call, int... values) {
        for (int value : values) {
            dueThrow(q, what + " with " + value, want, () -> call.answer(value));
        }
    }

    static void dueSame(TwoEndQueues q, String what, String before) {
        dueText("the trace behind " + what, trace(q), before);
    }

    /** Short, because an object is good for 512 calls only. */
    static String trace(TwoEndQueues q) {
        return q.checksum() + "|" + q.fault();
    }

    /** Items, layouts and counts, to be read. */
    static String queues(TwoEndQueues q) {
        StringBuilder text = new StringBuilder();
        int handles = q.handles();
        for (int handle = 0; handle < 30; handle++) {
            if ((handles >> handle & 1) == 1) {
                text.append(handle).append(':').append(q.key(handle)).append(' ');
            }
        }
        for (int layout = 0; layout < 4; layout++) {
            text.append('|').append(row(q, layout));
        }
        return text.append('|').append(counts(q)).toString();
    }

    static String row(TwoEndQueues q, int layout) {
        List<Integer> row = new ArrayList<>();
        int size = q.size();
        for (int position = 0; position < size; position++) {
            row.add(q.at(layout, position));
        }
        return row.toString();
    }

    static String counts(TwoEndQueues q) {
        return q.comparisons(0) + "," + q.comparisons(1) + "," + q.comparisons(2);
    }

    static TwoEndQueues with(int... keys) {
        TwoEndQueues q = new TwoEndQueues();
        for (int key : keys) {
            q.insert(key);
        }
        return q;
    }

    static TwoEndQueues full() {
        TwoEndQueues q = new TwoEndQueues();
        q.fill(30, 9);
        return q;
    }

    static void typeAll(TwoEndQueues q, String text) {
        for (int i = 0; i < text.length(); i++) {
            q.type(text.charAt(i));
        }
    }

    static TwoEndQueues typed(String text) {
        TwoEndQueues q = new TwoEndQueues();
        typeAll(q, text);
        return q;
    }

    /** The item p, with the key keys[p], stands at the position p of the layout, and nothing is counted. */
    static TwoEndQueues laid(int layout, int... keys) {
        TwoEndQueues q = with(keys);
        lay(q, layout, upTo(keys.length));
        q.forget();
        return q;
    }

    static void lay(TwoEndQueues q, int layout, int... handles) {
        for (int position = 0; position < handles.length; position++) {
            q.disturb(layout, position, q.where(layout, handles[position]));
        }
    }

    /** Keys that make layout 0 right: the low ones go up from node to node, the high ones down. */
    static int[] intervalKeys(int n) {
        int[] keys = new int[n];
        for (int position = 0; position < n; position++) {
            keys[position] = position % 2 == 0 ? position : 500 - position;
        }
        return keys;
    }

    /** Keys that make layout 1 right: its levels begin at the positions 0, 1, 3, 7 and 15. */
    static int[] levelKeys(int n) {
        int[] keys = new int[n];
        for (int position = 0; position < n; position++) {
            boolean low = position < 1 || position >= 3 && position < 7 || position >= 15;
            keys[position] = low ? position : 500 - position;
        }
        return keys;
    }

    /** The same keys, but for the one at the position. */
    static int[] put(int[] keys, int position, int key) {
        int[] changed = keys.clone();
        changed[position] = key;
        return changed;
    }

    /** 0, 1, .., n - 1. */
    static int[] upTo(int n) {
        int[] row = new int[n];
        for (int i = 0; i < n; i++) {
            row[i] = i;
        }
        return row;
    }

    static void dueSteps(String what, TwoEndQueues q, int layout, String wantRow, int wantCount) {
        dueText("the layout behind " + what, row(q, layout), wantRow);
        due("the comparisons of " + what, q.comparisons(Math.min(layout, 2)), wantCount);
    }

    static void dueChange(int layout, int position, int key, String wantRow, int wantCount, int... keys) {
        TwoEndQueues q = laid(layout, keys);
        q.change(position, key);
        dueSteps("change(" + position + ", " + key + ")", q, layout, wantRow, wantCount);
    }

    static void dueRemove(int layout, int handle, String wantRow, int wantCount, int... keys) {
        TwoEndQueues q = laid(layout, keys);
        q.remove(handle);
        dueSteps("remove(" + handle + ") of " + keys.length, q, layout, wantRow, wantCount);
    }

    static void dueBuild(int layout, String wantRow, int wantCount, int... keys) {
        TwoEndQueues q = with(keys);
        q.forget();
        q.build();
        dueSteps("build() of " + keys.length, q, layout, wantRow, wantCount);
    }

    /** A change to the key that the item has, in a layout that is right: nothing moves. */
    static void dueStill(int layout, int position, int wantCount, int... keys) {
        TwoEndQueues q = laid(layout, keys);
        String before = row(q, layout);
        q.change(position, keys[position]);
        dueSteps("a change to the same at " + position + " of " + keys.length, q, layout, before, wantCount);
    }

    /** Puts a new item into a layout that is right, and leaves it right; the item comes to the position want. */
    static void dueRise(int layout, int key, int want, int wantCount, int... keys) {
        TwoEndQueues q = laid(layout, keys);
        int handle = q.insert(key);
        String what = "insert(" + key + ") behind " + keys.length;
        due("where(" + layout + ", " + handle + ") behind " + what, q.where(layout, handle), want);
        due("the comparisons of " + what, q.comparisons(layout), wantCount);
        due("the violations behind " + what, q.violations(layout), 0);
    }

    /** Runs every method that is marked with a sentence, so that none can be left out by mistake. */
    static void runSentences(Class<?> tests) {
        Map<String, String> document = readDocument();
        int count = 0;
        for (Method test : tests.getDeclaredMethods()) {
            Sentence sentence = test.getAnnotation(Sentence.class);
            if (sentence != null) {
                count++;
                place = sentence.of() + ", \"" + sentence.says() + "\"";
                if (!document.isEmpty() && !document.getOrDefault(sentence.of(), "").contains(sentence.says())) {
                    tellWrong("the document does not say so there");
                }
                runTest(test);
            }
        }
        place = tests.getName();
        if (count == 0) {
            tellWrong("there is no test");
        }
        finish(count + " sentences hold");
    }

    private static void runTest(Method test) {
        try {
            test.invoke(null);
        } catch (InvocationTargetException e) {
            tellWrong("the test ended with " + e.getCause());
        } catch (IllegalAccessException e) {
            tellWrong("the test can't be called: it is private");
        }
    }

    /** The text under each heading; the sections of the description have a line of capitals as heading. */
    private static Map<String, String> readDocument() {
        Map<String, String> parts = new HashMap<>();
        String heading = "";
        try {
            for (String line : Files.readAllLines(DOCUMENT)) {
                if (line.startsWith("## ")) {
                    heading = line.substring(3);
                } else if (line.matches("[A-Z]{4,}( [0-2],.*)?|The constants:")) {
                    heading = line;
                } else {
                    parts.merge(heading, line, (before, next) -> before + "\n" + next);
                }
            }
        } catch (IOException e) {
            System.out.println("the sentences are not set against the document: " + DOCUMENT + " can't be read");
            parts.clear();
        }
        return parts;
    }

    static void finish(String allRight) {
        System.out.println(wrong == 0 ? allRight : wrong + " answers are not as due");
        if (wrong != 0) {
            System.exit(1);
        }
    }
}
