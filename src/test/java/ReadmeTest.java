import java.lang.reflect.Method;
import java.lang.reflect.Modifier;
import java.nio.file.Files;
import java.nio.file.Path;
import java.util.HashMap;
import java.util.Map;
import java.util.Set;
import java.util.TreeMap;
import java.util.TreeSet;
import java.util.regex.Matcher;
import java.util.regex.Pattern;

/** That the calls that README.md shows answer as it says, and that it leaves none of the face out. */
public final class ReadmeTest {
    private static final Pattern ROW = Pattern.compile("^\\| `(\\w+)\\(([^)]*)\\)` \\|", Pattern.MULTILINE);
    private static final String MAKING = "GhostSigns signs = new GhostSigns();";

    public static void main(String[] args) throws Exception {
        String readme = Files.readString(Path.of("README.md"));
        ReadmeExamples examples = new ReadmeExamples(readme);
        for (String fault : examples.faults()) {
            Checks.due("README.md: " + fault, 1, 0);
        }
        Map<String, Integer> face = face();
        same("calls shown as examples", examples.called(), face.keySet());
        Map<String, Integer> rows = rows(readme);
        same("calls in the table", rows.keySet(), face.keySet());
        same("calls in the table, with how many parameters", rows.entrySet(), face.entrySet());
        constants(readme);
        tests(readme);
        faultsAreSeen();
        Checks.finish();
    }

    private static void same(String what, Set<?> got, Set<?> due) {
        Checks.due(what + ": " + got + ", due are " + due, got.equals(due) ? 1 : 0, 1);
    }

    private static Map<String, Integer> face() {
        Map<String, Integer> face = new TreeMap<>();
        for (Method method : GhostSigns.class.getDeclaredMethods()) {
            if (Modifier.isPublic(method.getModifiers())) {
                face.put(method.getName(), method.getParameterCount());
            }
        }
        return face;
    }

    private static Map<String, Integer> rows(String readme) {
        Map<String, Integer> rows = new TreeMap<>();
        Matcher row = ROW.matcher(readme);
        while (row.find()) {
            int parameters = row.group(2).isEmpty() ? 0 : row.group(2).split(", ").length;
            Checks.due("rows of " + row.group(1), rows.put(row.group(1), parameters) == null ? 1 : 2, 1);
        }
        return rows;
    }

    private static void constants(String readme) {
        Map<String, Integer> due = new HashMap<>();
        due.put("BAD", GhostSigns.BAD);
        due.put("FULL", GhostSigns.FULL);
        due.put("FINDING", GhostSigns.FINDING);
        due.put("STATE", GhostSigns.STATE);
        due.put("SPENT", GhostSigns.SPENT);
        due.put("NONE", GhostSigns.NONE);
        due.forEach((name, value) -> {
            String row = "\n| `" + name + "` | " + value + " |";
            Checks.due("a row of " + name + " with " + value, readme.contains(row) ? 1 : 0, 1);
        });
    }

    /** Every test of the project has a row of its own. */
    private static void tests(String readme) throws Exception {
        Set<String> missing = new TreeSet<>();
        try (var files = Files.list(Path.of("src/test/java"))) {
            for (Path file : files.toList()) {
                String name = file.getFileName().toString().replace(".java", "");
                if (name.endsWith("Test") && !readme.contains("\n| `" + name + "` |")) {
                    missing.add(name);
                }
            }
        }
        Checks.due("tests without a row: " + missing, missing.size(), 0);
    }

    /** Small texts with one fault each, and some without one. */
    private static void faultsAreSeen() throws Exception {
        faults("no examples", "Nothing.\n", 0);
        faults("a right answer", block("signs.asked(); // 0: nothing was asked yet"), 0);
        faults("a right answer without why", block("signs.asked(); // 0"), 0);
        faults("a right constant", block("signs.mean(); // FINDING"), 0);
        faults("an answer that is kept", block("int n = signs.sheet(0, 3); // 3", "signs.lay(0, n - 1, 'b'); // 1097"), 0);
        faults("a right digest", block("signs.digest(); // -6540983380485844591"), 0);
        faults("a wrong answer", block("signs.asked(); // 1: nothing was asked yet"), 1);
        faults("a wrong answer that is kept", block("int n = signs.sheet(0, 3); // 4"), 1);
        faults("a wrong constant", block("signs.mean(); // STATE"), 1);
        faults("a wrong digest", block("signs.digest(); // -6540983380485844590"), 1);
        faults("two wrong answers", block("signs.asked(); // 1", "signs.finding(); // 1"), 2);
        faults("two blocks, the second wrong", block("signs.asked(); // 0") + block("signs.asked(); // 1"), 1);
        faults("a call without its answer", block("signs.asked();"), 1);
        faults("a call with words in place of its answer", block("signs.asked(); // nothing yet"), 1);
        faults("a call within another line", block("if (signs.asked() == 0) { signs.mean(); } // FINDING"), 1);
        faults("a call that there is not", block("signs.shine(0); // 0"), 1);
        faults("a call with an argument too few", block("signs.sheet(0); // 0"), 1);
        faults("a constant that there is not", block("signs.mean(); // NOUGHT"), 1);
        faults("a call in a block of another kind", "```\nsigns.asked(); // 0\n```\n", 1);
        faults("a call in the text", "So `signs.asked()` answers 0.\n", 1);
        faults("a block without an end", "```java\n" + MAKING + "\nsigns.asked(); // 0\n", 1);
    }

    private static String block(String... calls) {
        return "```java\n" + MAKING + "\n" + String.join("\n", calls) + "\n```\n";
    }

    private static void faults(String name, String text, int due) throws Exception {
        ReadmeExamples examples = new ReadmeExamples(text);
        Checks.due(name + ": faults " + examples.faults(), examples.faults().size(), due);
    }
}
