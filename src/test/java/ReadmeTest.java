import java.io.IOException;
import java.lang.reflect.Field;
import java.lang.reflect.InvocationTargetException;
import java.lang.reflect.Method;
import java.lang.reflect.Modifier;
import java.nio.file.Files;
import java.nio.file.Path;
import java.util.List;
import java.util.TreeSet;
import java.util.regex.Matcher;
import java.util.regex.Pattern;
import java.util.stream.Collectors;
import java.util.stream.Stream;

/** README.md says of the class what it does: its example is run, its tables are held against the class. */
public final class ReadmeTest {
    private static final Pattern TYPED = Pattern.compile("for \\(char letter : \"([^\"]*)\"\\.toCharArray\\(\\)\\) \\{");
    private static final Pattern CALL = Pattern.compile("x\\.(\\w+)\\(([^)]*)\\); +// (-?[0-9]+): .*");
    private static final Pattern ROW = Pattern.compile("\\| `(\\w+)\\(([^)]*)\\)` \\|(.*)\\|");
    private static final Check check = new Check();

    public static void main(String[] args) throws Exception {
        check.promise(0, "README.md");
        List<String> lines = Files.readAllLines(Path.of("README.md"));
        example(lines);
        constants(lines);
        calls(lines);
        tests(lines);
        check.end();
    }

    private static void example(List<String> lines) throws Exception {
        int from = lines.indexOf("```java");
        int to = lines.indexOf("```");
        check.due("README has an example", 1, from >= 0 && from < to ? 1 : 0);
        LychWeights x = null;
        TreeSet<String> called = new TreeSet<>();
        for (String line : lines.subList(from + 1, Math.max(from + 1, to))) {
            String code = line.trim();
            Matcher typed = TYPED.matcher(code);
            Matcher call = CALL.matcher(code);
            if (code.equals("LychWeights x = new LychWeights();")) {
                x = new LychWeights();
            } else if (typed.matches()) {
                Check.type(x, typed.group(1));
                called.add("type");
            } else if (call.matches()) {
                check.due(code, Long.parseLong(call.group(3)), answer(x, call.group(1), call.group(2)));
                called.add(call.group(1));
            } else {
                boolean known = code.isEmpty() || code.startsWith("// ") || code.equals("x.type(letter);") || code.equals("}");
                check.due("a line that is not understood: " + code, 1, known ? 1 : 0);
            }
        }
        check.due("calls of the example, " + called, 1, called.size() > 18 ? 1 : 0);
    }

    private static long answer(LychWeights x, String name, String arguments)
            throws IllegalAccessException, InvocationTargetException {
        Object[] numbers = Stream.of(arguments.split(", *")).filter(s -> !s.isEmpty()).map(Integer::valueOf).toArray();
        return ((Number) method(name, numbers.length).invoke(x, numbers)).longValue();
    }

    private static Method method(String name, int numbers) {
        for (Method m : LychWeights.class.getDeclaredMethods()) {
            if (Modifier.isPublic(m.getModifiers()) && m.getName().equals(name) && m.getParameterCount() == numbers) {
                return m;
            }
        }
        throw new IllegalStateException("README tells a call that there is not: " + name + " of " + numbers + " numbers");
    }

    private static void constants(List<String> lines) throws IllegalAccessException {
        for (Field f : LychWeights.class.getFields()) {
            String row = "| `" + f.getName() + "` | " + f.getInt(null) + " |";
            check.due(row, 1, lines.stream().filter(line -> line.startsWith(row)).count());
        }
    }

    /** Each call has one row, and its last field names the refusals that the document names for it. */
    private static void calls(List<String> lines) throws IOException {
        TreeSet<String> told = new TreeSet<>();
        for (String line : lines) {
            Matcher row = ROW.matcher(line);
            if (row.matches()) {
                String name = row.group(1);
                String[] names = row.group(2).isEmpty() ? new String[0] : row.group(2).split(", *");
                method(name, names.length);
                check.due("a second row of " + name, 1, told.add(name) ? 1 : 0);
                String[] fields = row.group(3).split("\\|");
                check.due("fields of " + name, 3, fields.length);
                refusals(name, fields[fields.length - 1]);
            }
        }
        for (Method m : LychWeights.class.getDeclaredMethods()) {
            if (Modifier.isPublic(m.getModifiers())) {
                check.due("a row of " + m.getName(), 1, told.contains(m.getName()) ? 1 : 0);
            }
        }
    }

    private static void refusals(String name, String told) throws IOException {
        String doc = Files.readString(Path.of("../shared/DOC.md"));
        Matcher promise = Pattern.compile("(?m)^`(?:int|long) " + name + "\\([^)]*\\)`: (.*)$").matcher(doc);
        check.due("the document's promise of " + name, 1, promise.find() ? 1 : 0);
        for (String word : new String[] {"BAD", "STATE", "FULL", "NO"}) {
            // where the document says "NO: BAD", NO is what the call answers
            String due = promise.group(1).replace("NO: BAD", "NO");
            boolean isDue = Pattern.compile("\\b" + word + "\\b").matcher(due).find();
            check.due(name + " tells " + word, isDue ? 1 : 0, told.contains("`" + word + "`") ? 1 : 0);
        }
    }

    private static void tests(List<String> lines) throws IOException {
        String rows = lines.stream().filter(line -> line.startsWith("| `")).collect(Collectors.joining("\n"));
        try (Stream<Path> files = Files.list(Path.of("src/test/java"))) {
            for (Path file : files.sorted().toList()) {
                String name = file.getFileName().toString().replace(".java", "");
                if (name.endsWith("Test")) {
                    check.due("a row of " + name, 1, rows.contains("`" + name + "`") ? 1 : 0);
                }
            }
        }
    }
}
