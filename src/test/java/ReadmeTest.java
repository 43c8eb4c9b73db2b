import java.io.IOException;
import java.lang.reflect.Method;
import java.lang.reflect.Modifier;
import java.nio.file.Files;
import java.nio.file.Path;
import java.util.List;
import java.util.TreeSet;
import java.util.regex.Matcher;
import java.util.regex.Pattern;

/** The calls that README.md shows answer as it says there, and it shows each call of the face. */
public final class ReadmeTest {
    private static final String NEW_OBJECT = "TableHistories x = new TableHistories();";
    /** A call, and behind it the answer, alone or with a colon and what it means. */
    private static final Pattern CALL =
        Pattern.compile("x\\.(\\w+)\\(([-\\dL, ]+)\\); +// (-?\\d+|BAD|NO|FULL|NONE)(: .+)?");
    private static final Pattern CONSTANT = Pattern.compile("\\| `([A-Z]+)` \\| (-\\d+) \\|.*");

    private final Due due = new Due();
    private final TreeSet<String> shown = new TreeSet<>();
    private Calls calls = null;

    public static void main(String[] args) throws IOException {
        ReadmeTest test = new ReadmeTest();
        List<String> lines = Files.readAllLines(Path.of("README.md"));
        test.readBlocks(lines);
        test.readConstants(lines);
        test.lookAtTheFace();
        test.lookAtTheTests(String.join("\n", lines));
        test.due.end();
    }

    private void readBlocks(List<String> lines) {
        boolean inside = false;
        for (String line : lines) {
            if (line.startsWith("```")) {
                inside = line.equals("```java");
                calls = null;
            } else if (inside) {
                readLine(line);
            }
        }
    }

    private void readLine(String line) {
        if (line.equals(NEW_OBJECT)) {
            calls = new Calls(due, "README.md");
            return;
        }
        Matcher call = CALL.matcher(line);
        boolean understood = call.matches() && calls != null;
        due.isTrue("README.md: a call on an object, with its answer: " + line, understood);
        if (understood) {
            shown.add(call.group(1));
            calls.is(answer(call.group(3)), call.group(1), numbers(call.group(1), call.group(2)));
        }
    }

    private static long answer(String text) {
        return switch (text) {
            case "BAD" -> TableHistories.BAD;
            case "NO" -> TableHistories.NO;
            case "FULL" -> TableHistories.FULL;
            case "NONE" -> TableHistories.NONE;
            default -> Long.parseLong(text);
        };
    }

    /** As many numbers as the call takes, and an L behind a long one alone, so that the line is Java. */
    private long[] numbers(String name, String text) {
        String[] parts = text.split(", ");
        Class<?>[] types = parameters(name);
        due.is("README.md: the numbers of " + name, parts.length, types.length);
        long[] all = new long[types.length];
        for (int i = 0; i < types.length && i < parts.length; i++) {
            boolean isLong = parts[i].endsWith("L");
            due.isTrue("README.md: " + name + ": " + parts[i], isLong == (types[i] == long.class));
            all[i] = Long.parseLong(isLong ? parts[i].substring(0, parts[i].length() - 1) : parts[i]);
        }
        return all;
    }

    private static Class<?>[] parameters(String name) {
        for (Method method : TableHistories.class.getDeclaredMethods()) {
            if (Modifier.isPublic(method.getModifiers()) && method.getName().equals(name)) {
                return method.getParameterTypes();
            }
        }
        return new Class<?>[0];
    }

    private void readConstants(List<String> lines) {
        TreeSet<String> told = new TreeSet<>();
        for (String line : lines) {
            Matcher constant = CONSTANT.matcher(line);
            if (constant.matches()) {
                told.add(constant.group(1));
                due.is("README.md: " + constant.group(1), answer(constant.group(1)), Long.parseLong(constant.group(2)));
            }
        }
        due.isTrue("README.md tells all constants", told.equals(new TreeSet<>(List.of("BAD", "NO", "FULL", "NONE"))));
    }

    private void lookAtTheFace() {
        for (Method method : TableHistories.class.getDeclaredMethods()) {
            if (Modifier.isPublic(method.getModifiers())) {
                due.isTrue("README.md shows " + method.getName(), shown.contains(method.getName()));
            }
        }
    }

    private void lookAtTheTests(String text) throws IOException {
        try (var files = Files.list(Path.of("src/test/java"))) {
            for (Path file : files.toList()) {
                String name = file.getFileName().toString();
                due.isTrue("README.md names " + name, name.startsWith("EdgesOf") || text.contains(name));
            }
        }
    }
}
