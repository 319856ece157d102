import java.io.IOException;
import java.lang.reflect.InvocationTargetException;
import java.lang.reflect.Method;
import java.nio.file.DirectoryStream;
import java.nio.file.Files;
import java.nio.file.Path;
import java.util.ArrayList;
import java.util.Arrays;
import java.util.List;
import java.util.Set;
import java.util.TreeSet;
import java.util.regex.Matcher;
import java.util.regex.Pattern;

/** README.md's example answers what it says there, and its tables name every method and every test. */
public final class ReadmeTest {
    private static final Path README = Path.of("README.md");
    private static final Path TESTS = Path.of("src/test/java");

    private static final String NEW_BOARD = "InvaderBoard board = new InvaderBoard();";
    private static final Pattern CALL = Pattern.compile(
        "board\\.(\\w+)\\(([^()]*)\\); +// (nothing|-?\\d+|throws \\w+)(: .+)?");

    public static void main(String[] args) throws IOException {
        List<String> lines = Files.readAllLines(README);
        exampleAnswersAsItSays(codeOf(lines));
        everyMethodHasARow(lines);
        everyTestHasARow(lines);
        Check.finish();
    }

    /** The lines of all blocks of Java, which are one run on one board. */
    private static List<String> codeOf(List<String> lines) {
        List<String> code = new ArrayList<>();
        boolean inside = false;
        for (String line : lines) {
            if (line.startsWith("```")) {
                inside = line.equals("```java");
            } else if (inside && !line.isBlank()) {
                code.add(line);
            }
        }
        return code;
    }

    private static void exampleAnswersAsItSays(List<String> code) {
        Check.due("the example's first line", code.isEmpty() ? "" : code.get(0), NEW_BOARD);
        InvaderBoard board = new InvaderBoard();
        Set<String> answered = new TreeSet<>();
        Set<String> refused = new TreeSet<>();
        for (String line : code.subList(Math.min(1, code.size()), code.size())) {
            Matcher call = CALL.matcher(line);
            if (!call.matches()) {
                Check.due("the form of the line", line, "board.method(numbers);   // answer: words");
                continue;
            }
            Check.due(line, answerOf(board, call.group(1), call.group(2)), call.group(3));
            (call.group(3).startsWith("throws ") ? refused : answered).add(call.group(1));
        }
        for (Method m : InvaderBoard.class.getDeclaredMethods()) {
            if (FaceTest.isOfTheFace(m)) {
                Check.due("a call of " + m.getName(), answered.contains(m.getName()) ? 1 : 0, 1);
                Check.due("a refused call of " + m.getName(), refused.contains(m.getName()) ? 1 : 0,
                    m.getExceptionTypes().length);
            }
        }
    }

    /** Makes a call that is given as text: its answer as README.md would write it. */
    private static String answerOf(InvaderBoard board, String name, String numbers) {
        Object[] values = valuesOf(numbers);
        try {
            Object answer = methodOf(name, values.length).invoke(board, values);
            return answer == null ? "nothing" : answer.toString();
        } catch (InvocationTargetException e) {
            return "throws " + e.getCause().getClass().getSimpleName();
        } catch (ReflectiveOperationException e) {
            return "no such call";
        }
    }

    private static Method methodOf(String name, int count) throws NoSuchMethodException {
        Class<?>[] types = new Class<?>[count];
        Arrays.fill(types, int.class);
        return InvaderBoard.class.getMethod(name, types);
    }

    private static Object[] valuesOf(String numbers) {
        if (numbers.isBlank()) {
            return new Object[0];
        }
        String[] texts = numbers.split(", *");
        Object[] values = new Object[texts.length];
        for (int i = 0; i < texts.length; i++) {
            boolean hex = texts[i].startsWith("0x");
            values[i] = hex ? Integer.parseUnsignedInt(texts[i].substring(2), 16) : Integer.parseInt(texts[i]);
        }
        return values;
    }

    /** A row has a method as it is declared, and the exception that it names, or 'nothing', as what it refuses. */
    private static void everyMethodHasARow(List<String> lines) {
        Set<String> rows = new TreeSet<>();
        for (String line : lines) {
            Matcher row = Pattern.compile("\\| `(\\w+ \\w+)\\(([^`]*)\\)` \\| .+ \\| .+ \\| (.+) \\|").matcher(line);
            if (row.matches()) {
                String types = row.group(2).replaceAll("(\\w+) \\w+,? *", "$1,").replaceFirst(",$", "");
                String refuses = row.group(3).equals("nothing") ? "" : row.group(3).replaceFirst(".*`(\\w+)`", " $1");
                rows.add(row.group(1) + "(" + types + ")" + refuses);
            }
        }
        Check.due("methods in the table", rows.toString(), new TreeSet<>(FaceTest.FACE).toString());
    }

    private static void everyTestHasARow(List<String> lines) throws IOException {
        Set<String> rows = new TreeSet<>();
        for (String line : lines) {
            Matcher row = Pattern.compile("\\| `(\\w+Test)` \\| .+ \\|").matcher(line);
            if (row.matches()) {
                rows.add(row.group(1) + ".java");
            }
        }
        Set<String> files = new TreeSet<>();
        try (DirectoryStream<Path> found = Files.newDirectoryStream(TESTS, "*Test.java")) {
            for (Path file : found) {
                files.add(file.getFileName().toString());
            }
        }
        Check.due("tests in the table", rows.toString(), files.toString());
    }
}
