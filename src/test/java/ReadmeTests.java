import java.io.IOException;
import java.lang.reflect.Method;
import java.lang.reflect.Modifier;
import java.nio.file.Files;
import java.nio.file.Path;
import java.util.ArrayList;
import java.util.LinkedHashMap;
import java.util.List;
import java.util.Map;
import java.util.regex.Matcher;
import java.util.regex.Pattern;

/** README.md tells the truth: its example answers what its comments say, and its table has every call. */
public final class ReadmeTests extends Tests {
    private static final Path README = Path.of("README.md");
    private static final Path THIS = Path.of("src/test/java/ReadmeTests.java");
    /** A line of the example whose comment begins with the answer. */
    private static final Pattern TOLD = Pattern.compile("int (\\w+) = .*; +// (-?\\d+)\\b.*");

    public static void main(String[] args) throws IOException {
        List<String> readme = Files.readAllLines(README);
        place = "README.md, the example";
        exampleIsTheSame(readme);
        exampleAnswers(readme);
        place = "README.md, the table";
        tableHasEveryCall(readme);
        finish("README.md tells the truth");
    }

    /** The statements of README.md, as they stand there; that they are the same is tested. */
    private static Map<String, Integer> example() {
        // the example begins
        TwoEndQueues q = new TwoEndQueues();
        int five = q.insert(5);
        int three = q.insert(3);
        int size = q.fill(10, 42);
        int previous = q.change(five, -200);
        int inThought = q.wouldNeed(1, 1, 0);
        int least = q.takeLeast();
        int counted = q.comparisons(1);
        int broken = q.disturb(1, 0, 5);
        int needed = q.build();
        int records = q.undo();
        for (char c : "i7;l;r29;b;".toCharArray()) {
            q.type(c);
        }
        int fault = q.fault();
        int commands = q.run();
        // the example ends
        Map<String, Integer> answers = new LinkedHashMap<>();
        answers.put("five", five);
        answers.put("three", three);
        answers.put("size", size);
        answers.put("previous", previous);
        answers.put("inThought", inThought);
        answers.put("least", least);
        answers.put("counted", counted);
        answers.put("broken", broken);
        answers.put("needed", needed);
        answers.put("records", records);
        answers.put("fault", fault);
        answers.put("commands", commands);
        return answers;
    }

    private static void exampleIsTheSame(List<String> readme) throws IOException {
        List<String> here = between(Files.readAllLines(THIS), "// the example begins", "// the example ends");
        due("the statements that are tested: how many", here.isEmpty() ? 0 : 1, 1);
        dueText("the example", between(readme, "```java", "```").toString(), here.toString());
    }

    private static List<String> between(List<String> lines, String begin, String end) {
        List<String> found = new ArrayList<>();
        boolean inside = false;
        for (String line : lines) {
            if (line.trim().equals(end)) {
                inside = false;
            }
            if (inside) {
                found.add(line.replaceFirst(" *// .*", "").trim());
            }
            if (line.trim().equals(begin)) {
                inside = true;
            }
        }
        return found;
    }

    private static void exampleAnswers(List<String> readme) {
        Map<String, Integer> told = new LinkedHashMap<>();
        for (String line : readme) {
            Matcher matcher = TOLD.matcher(line);
            if (matcher.matches()) {
                told.put(matcher.group(1), Integer.parseInt(matcher.group(2)));
            }
        }
        dueText("what the comments say", told.toString(), example().toString());
    }

    private static void tableHasEveryCall(List<String> readme) {
        StringBuilder table = new StringBuilder();
        for (String line : readme) {
            table.append(line.startsWith("|") ? line : "");
        }
        int calls = 0;
        for (Method method : TwoEndQueues.class.getDeclaredMethods()) {
            if (Modifier.isPublic(method.getModifiers())) {
                calls++;
                Matcher matcher = Pattern.compile("`" + method.getName() + "\\(([^)]*)\\)`").matcher(table);
                due(method.getName() + " in the table", matcher.find() ? 1 : 0, 1);
                if (matcher.reset().find()) {
                    String names = matcher.group(1);
                    int count = names.isEmpty() ? 0 : names.split(", ").length;
                    due("the parameters of " + method.getName(), count, method.getParameterCount());
                }
            }
        }
        due("the calls of the table", table.toString().split("`[a-zA-Z]+\\(", -1).length - 1, calls);
    }
}
