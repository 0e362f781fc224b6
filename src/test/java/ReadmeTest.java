import java.io.IOException;
import java.lang.reflect.Method;
import java.lang.reflect.Modifier;
import java.nio.file.Files;
import java.nio.file.Path;
import java.util.ArrayList;
import java.util.List;
import java.util.Set;
import java.util.TreeSet;
import java.util.regex.Matcher;
import java.util.regex.Pattern;
import java.util.stream.Stream;

/** README.md: the answers of its example, its table of calls and its list of tests. */
public final class ReadmeTest {
    private static final Pattern ASKED = Pattern.compile("x\\.(\\w+)\\(([^)]*)\\); +// (-?\\w+)(:.*)?");
    private static final Pattern ROW = Pattern.compile("\\| `(\\w+)\\(([^)]*)\\)` \\|.*");
    private static final Pattern TEST = Pattern.compile("`(\\w+Test)`");
    private static final Check CHECK = new Check();

    public static void main(String[] args) throws IOException, ReflectiveOperationException {
        String text = Files.readString(Path.of("README.md"));
        example(text);
        table(text);
        tests(text);
        CHECK.end();
    }

    private static int[] numbers(String text) {
        return text.isEmpty() ? new int[0] : Stream.of(text.split(", ")).mapToInt(Integer::parseInt).toArray();
    }

    private static Method methodOf(String name) {
        for (Method method : MarkSheets.class.getDeclaredMethods()) {
            if (Modifier.isPublic(method.getModifiers()) && method.getName().equals(name)) {
                return method;
            }
        }
        throw new IllegalArgumentException("README.md has a call that there is not: " + name);
    }

    private static long answer(MarkSheets x, String name, int[] numbers) throws ReflectiveOperationException {
        Object[] given = new Object[numbers.length];
        for (int i = 0; i < numbers.length; i++) {
            given[i] = numbers[i];
        }
        return ((Number) methodOf(name).invoke(x, given)).longValue();
    }

    /** A number, or the name of a constant. */
    private static long told(String answer) throws ReflectiveOperationException {
        boolean isNumber = answer.matches("-?\\d+");
        return isNumber ? Long.parseLong(answer) : MarkSheets.class.getField(answer).getInt(null);
    }

    private static void example(String text) throws ReflectiveOperationException {
        CHECK.sentence("Behind each call here stands what it answers");
        MarkSheets x = new MarkSheets();
        String block = text.split("```java\n")[1].split("```")[0];
        for (String line : block.split("\n")) {
            Matcher asked = ASKED.matcher(line);
            if (asked.matches()) {
                CHECK.due(line, answer(x, asked.group(1), numbers(asked.group(2))), told(asked.group(3)));
            } else {
                CHECK.due("only the first line asks nothing: " + line,
                    line.equals("MarkSheets x = new MarkSheets();") ? 1 : 0, 1);
            }
        }
    }

    private static void table(String text) {
        CHECK.sentence("| call | answer |");
        List<String> rows = new ArrayList<>();
        for (String line : text.split("\n")) {
            Matcher row = ROW.matcher(line);
            if (row.matches()) {
                int numbers = row.group(2).isEmpty() ? 0 : row.group(2).split(", ").length;
                CHECK.due("numbers of " + row.group(1), numbers, methodOf(row.group(1)).getParameterCount());
                rows.add(row.group(1));
            }
        }
        CHECK.due("calls, each once", new TreeSet<>(rows).size(), rows.size());
        CHECK.due("calls of the face", rows.size(), 21);
    }

    private static void tests(String text) throws IOException {
        CHECK.sentence("`.ci/run` compiles and runs every test (each one is in the list)");
        Set<String> named = new TreeSet<>();
        Matcher test = TEST.matcher(text);
        while (test.find()) {
            named.add(test.group(1));
        }
        Set<String> there = new TreeSet<>();
        try (Stream<Path> files = Files.list(Path.of("src/test/java"))) {
            files.map(file -> file.getFileName().toString().replace(".java", ""))
                .filter(name -> name.endsWith("Test")).forEach(there::add);
        }
        CHECK.due("named " + named + ", there " + there, named.equals(there) ? 1 : 0, 1);
    }
}
