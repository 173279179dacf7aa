import java.io.IOException;
import java.nio.file.Files;
import java.nio.file.Path;
import java.util.HashMap;
import java.util.List;
import java.util.Map;
import java.util.regex.Matcher;
import java.util.regex.Pattern;
import java.util.stream.Stream;

/** What README.md tells of the class and of the tests is so. Runs in the project's folder. */
public final class ReadmeTest {
    private static final Path README = Path.of("README.md");
    private static final Path TESTS = Path.of("src", "test", "java");
    private static final Pattern CALL = Pattern.compile(
        "(?:int (?<name>\\w+) = )?desk\\.(?<call>\\w+)\\((?<arguments>[^)]*)\\); +// (?<answer>-?\\d+|true|false): .+");

    public static void main(String[] args) throws IOException {
        Checks checks = new Checks();
        checks.part("README.md");
        checks.due("it is there", Files.isRegularFile(README), true);
        if (Files.isRegularFile(README)) {
            List<String> lines = Files.readAllLines(README);
            runExample(checks, lines);
            listsEachCall(checks, lines);
            listsEachTest(checks, String.join("\n", lines));
        }
        checks.finish("ReadmeTest");
    }

    private static void runExample(Checks checks, List<String> lines) {
        int start = lines.indexOf("```java");
        checks.due("it has an example", start >= 0, true);
        List<String> rest = lines.subList(start + 1, lines.size());
        List<String> example = rest.subList(0, Math.max(0, rest.indexOf("```")));
        checks.due("it makes an object", example.indexOf("LockDesk desk = new LockDesk();"), 0);
        LockDesk desk = new LockDesk();
        Map<String, Integer> names = new HashMap<>();
        for (String line : example.subList(Math.min(1, example.size()), example.size())) {
            if (!line.isEmpty()) {
                runLine(checks, desk, names, line);
            }
        }
    }

    private static void runLine(Checks checks, LockDesk desk, Map<String, Integer> names, String line) {
        Matcher call = CALL.matcher(line);
        if (!call.matches()) {
            checks.due(line + ": is a call with its answer", false, true);
            return;
        }
        int[] v = new int[4];
        String[] arguments = call.group("arguments").isEmpty() ? new String[0]
            : call.group("arguments").split(", ");
        for (int k = 0; k < arguments.length; k++) {
            v[k] = names.containsKey(arguments[k]) ? names.get(arguments[k])
                : Integer.parseInt(arguments[k]);
        }
        int got = Calls.answer(desk, call.group("call"), v[0], v[1], v[2], v[3]);
        checks.due(line, got, value(call.group("answer")));
        if (call.group("name") != null) {
            names.put(call.group("name"), got);
        }
    }

    private static int value(String answer) {
        return switch (answer) {
            case "true" -> 1;
            case "false" -> 0;
            default -> Integer.parseInt(answer);
        };
    }

    private static void listsEachCall(Checks checks, List<String> lines) {
        for (String name : Calls.NAMES) {
            long rows = lines.stream().filter(line -> line.startsWith("| `" + name + "(")).count();
            checks.due("rows for " + name, (int) rows, 1);
        }
    }

    private static void listsEachTest(Checks checks, String text) throws IOException {
        checks.due("how to run the tests", text.contains("\n.ci/run\n"), true);
        try (Stream<Path> files = Files.list(TESTS)) {
            for (Path file : files.filter(f -> f.toString().endsWith("Test.java")).toList()) {
                String row = "- `src/test/java/" + file.getFileName() + "`: ";
                checks.due("a row for " + file.getFileName(), text.contains(row), true);
            }
        }
    }
}
