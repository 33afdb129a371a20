import java.io.IOException;
import java.lang.reflect.Field;
import java.lang.reflect.Method;
import java.lang.reflect.Modifier;
import java.nio.file.Files;
import java.nio.file.Path;
import java.util.List;
import java.util.Set;
import java.util.regex.Matcher;
import java.util.regex.Pattern;

/**
 * The rules of LANGUAGE.md that can be seen in the program's text: the program uses less than they
 * leave, so this test asks for what it does use, and what it newly needs is added here. Rule 1 is
 * FaceTest's.
 */
public final class LanguageTest {
    private static final Check CHECK = new Check();
    private static final Path PROGRAM = Path.of("src", "main", "java", "IntervalSolver.java");
    private static final int MOST_LINES = 60;
    private static final int MOST_PARAMETERS = 7;
    private static final int MOST_FIELDS = 20;

    private static final Pattern COMMENT = Pattern.compile("//[^\n]*|/\\*.*?\\*/", Pattern.DOTALL);
    private static final Pattern FORBIDDEN = Pattern.compile(
            "\\b(import|package|catch|try|finally|synchronized|assert|instanceof|while|do)\\b|->|::|static \\{");
    /** Only the answer of condition is a double: so none can reach a function of Math. */
    private static final Pattern DOUBLE = Pattern.compile("\\bfloat\\b|\\bdouble \\w+ *[=;,)]");
    private static final Pattern LIBRARY = Pattern.compile("\\b([A-Z]\\w*\\.\\w+)");
    private static final Set<String> USED = Set.of(
            "Math.abs", "Math.max", "Math.min", "Math.floorDiv", "Integer.bitCount", "System.arraycopy");
    private static final Pattern THROWN = Pattern.compile("throw (.*)");
    private static final Pattern WRITTEN = Pattern.compile(
            "new (IllegalArgumentException|IndexOutOfBoundsException|ArithmeticException)\\(\"[ -~]*\"\\);");
    private static final Pattern MADE = Pattern.compile(".*\\bnew .*");
    private static final Pattern FIELD = Pattern.compile("    private .*= new (int|long)(\\[MOST_ROWS\\]){1,2};"
            + "|    private final long\\[\\] minors = new long\\[COLUMN_SETS\\];");
    private static final Pattern HEAD = Pattern.compile("    (public|private) [^=;]*\\(.*");

    public static void main(String[] args) throws IOException {
        String program = COMMENT.matcher(Files.readString(PROGRAM)).replaceAll("");
        words(program);
        library(program);
        exceptions(program);
        objects(program);
        fields();
        methods(program);
        CHECK.end();
    }

    /** 2 to 6, 9, 10: no class inside, no lambda, no import, no catch, no loop but for, no joined texts. */
    private static void words(String program) {
        none("2, 4, 5, 6, 9: forbidden words", FORBIDDEN.matcher(program));
        none("3: doubles", DOUBLE.matcher(program));
        none("10: joined texts", Pattern.compile("\" *\\+|\\+ *\"").matcher(program));
        CHECK.due("2: classes", Pattern.compile("\\b(class|interface|enum|record) \\w+")
                .matcher(program).results().count(), 1);
    }

    /** 4, 13: what it calls of the library. */
    private static void library(String program) {
        Matcher call = LIBRARY.matcher(program.replaceAll("\"[^\"]*\"", "\"\""));
        while (call.find()) {
            CHECK.due("4: " + call.group(1), USED.contains(call.group(1)), true);
        }
    }

    /** 6: each throw is of one of the document's exceptions, new, with a written text. */
    private static void exceptions(String program) {
        Matcher thrown = THROWN.matcher(program);
        while (thrown.find()) {
            CHECK.due("6: throw " + thrown.group(1), WRITTEN.matcher(thrown.group(1)).matches(), true);
        }
    }

    /** 12: objects and arrays are made with the object itself alone, but for exceptions. */
    private static void objects(String program) {
        for (String line : program.split("\n")) {
            if (MADE.matcher(line).matches() && !line.contains("throw new ")) {
                CHECK.due("12: " + line, FIELD.matcher(line).matches(), true);
            }
        }
    }

    /** 3, 5, 11: which fields there are. */
    private static void fields() {
        int own = 0;
        for (Field field : IntervalSolver.class.getDeclaredFields()) {
            String type = field.getType().getSimpleName();
            boolean constant = Modifier.isStatic(field.getModifiers());
            List<String> allowed = constant ? List.of("int", "long", "boolean", "char", "String")
                    : List.of("int", "long", "int[]", "long[]", "int[][]", "long[][]");
            CHECK.due("3, 5: the type of " + field.getName() + ": " + type, allowed.contains(type), true);
            own += constant ? 0 : 1;
        }
        CHECK.due("11: at most " + MOST_FIELDS + " fields", own <= MOST_FIELDS, true);
    }

    /** 11: how many parameters a method takes, and how long it is. */
    private static void methods(String program) {
        for (Method method : IntervalSolver.class.getDeclaredMethods()) {
            CHECK.due("11: parameters of " + method.getName(), method.getParameterCount() <= MOST_PARAMETERS, true);
        }
        String[] lines = program.split("\n");
        int head = 0;
        for (int k = 0; k < lines.length; k++) {
            if (HEAD.matcher(lines[k]).matches()) {
                head = k;
            } else if (lines[k].equals("    }")) {
                CHECK.due("11: the length of " + lines[head].trim(), k - head < MOST_LINES, true);
            }
        }
    }

    private static void none(String rule, Matcher found) {
        CHECK.due(rule, found.find() ? found.group() : "none", "none");
    }
}
