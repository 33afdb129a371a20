import java.io.IOException;
import java.lang.reflect.InvocationTargetException;
import java.lang.reflect.Method;
import java.lang.reflect.Modifier;
import java.nio.file.Files;
import java.nio.file.Path;
import java.util.Arrays;
import java.util.List;
import java.util.Set;
import java.util.TreeSet;
import java.util.regex.Matcher;
import java.util.regex.Pattern;
import java.util.stream.Collectors;
import java.util.stream.Stream;

/** README.md: its example answers what it names, and its tables name all calls and all tests. */
public final class ReadmeTest {
    private static final Check CHECK = new Check();
    private static final Path README = Path.of("README.md");
    private static final Path TESTS = Path.of("src", "test", "java");
    private static final String START = "IntervalSolver solver = new IntervalSolver();";
    private static final Pattern CALL = Pattern.compile("solver\\.(\\w+)\\(([-\\d, ]*)\\); *(?:// (.*))?");
    private static final Pattern ANSWER = Pattern.compile("-> ([^:]+)(?:: .*)?");
    private static final Pattern NAME = Pattern.compile("`(\\w+)`");

    public static void main(String[] args) throws IOException {
        List<String> lines = Files.readAllLines(README);
        example(lines);
        CHECK.due("the calls in the table", firstCells(lines, "| calls |"), publicMethods());
        CHECK.due("the tests in the table", firstCells(lines, "| test |"), testFiles());
        CHECK.due(".ci/run can be run", Files.isExecutable(Path.of(".ci", "run")), true);
        CHECK.end();
    }

    private static void example(List<String> lines) {
        int from = lines.indexOf("```java") + 1;
        List<String> rest = lines.subList(from, lines.size());
        List<String> example = rest.subList(0, rest.indexOf("```"));
        CHECK.due("the example's first line", example.get(0), START);
        IntervalSolver solver = new IntervalSolver();
        int answers = 0;
        for (String line : example.subList(1, example.size())) {
            Matcher call = CALL.matcher(line);
            if (call.matches()) {
                answers += call(solver, line, call) ? 1 : 0;
            } else {
                CHECK.due("a line that is no call", line, "");
            }
        }
        CHECK.due("the example names answers", answers > 0, true);
    }

    /** Makes the call of a line; answers whether the line names what it is due to answer. */
    private static boolean call(IntervalSolver solver, String line, Matcher call) {
        String got = answer(solver, call.group(1), call.group(2));
        Matcher due = ANSWER.matcher(call.group(3) == null ? "" : call.group(3));
        boolean named = due.matches();
        if (named) {
            CHECK.due(line, got, due.group(1));
        } else {
            CHECK.due(line + " throws", got.startsWith("throws"), false);
        }
        return named;
    }

    private static String answer(IntervalSolver solver, String name, String list) {
        Object[] values = list.isEmpty() ? new Object[0]
                : Stream.of(list.split(", ")).map(Integer::valueOf).toArray();
        Class<?>[] types = new Class<?>[values.length];
        Arrays.fill(types, int.class);
        try {
            return String.valueOf(IntervalSolver.class.getMethod(name, types).invoke(solver, values));
        } catch (InvocationTargetException e) {
            return "throws " + e.getCause().getClass().getSimpleName();
        } catch (ReflectiveOperationException e) {
            return "there is no such call";
        }
    }

    /** The names in the first cells of a table's rows, sorted. */
    private static String firstCells(List<String> lines, String head) {
        Set<String> names = new TreeSet<>();
        boolean inside = false;
        for (String line : lines) {
            inside = line.startsWith(head) || inside && line.startsWith("|");
            if (inside) {
                Matcher name = NAME.matcher(line.split("\\|")[1]);
                while (name.find()) {
                    CHECK.due(name.group(1) + " stands there once", names.add(name.group(1)), true);
                }
            }
        }
        return String.join(" ", names);
    }

    private static String publicMethods() {
        return Stream.of(IntervalSolver.class.getDeclaredMethods())
                .filter(method -> Modifier.isPublic(method.getModifiers()))
                .map(Method::getName)
                .sorted()
                .collect(Collectors.joining(" "));
    }

    private static String testFiles() throws IOException {
        try (Stream<Path> files = Files.list(TESTS)) {
            return files.map(file -> file.getFileName().toString())
                    .filter(name -> name.endsWith("Test.java"))
                    .map(name -> name.substring(0, name.length() - ".java".length()))
                    .sorted()
                    .collect(Collectors.joining(" "));
        }
    }
}
