import java.io.IOException;
import java.lang.reflect.Method;
import java.lang.reflect.Modifier;
import java.nio.file.Files;
import java.nio.file.Path;
import java.util.List;
import java.util.regex.Matcher;
import java.util.regex.Pattern;

/** README.md, in the directory where this runs, tells every call and constant, and its example answers as it says. */
public final class ReadmeTest {
    private static final Check CHECK = new Check("ReadmeTest");

    private static final Pattern CALL_ROW = Pattern.compile("^\\| `(\\w+)\\(([^)]*)\\)` \\| \\S.*\\|$");
    private static final Pattern CONSTANT_ROW = Pattern.compile("^\\| `(\\w+)` \\| (-\\d+) \\| \\S.*\\|$");
    private static final Pattern EXAMPLE = Pattern.compile("^ink\\.(\\w+)\\(([^)]*)\\);\\s+// (-?\\d+).*$");
    private static final Pattern WRITTEN = Pattern.compile("^for \\(char c : \"([^\"]+)\".*ink\\.write\\(c\\);$");

    public static void main(String[] args) throws Exception {
        List<String> page = pageOf(Path.of("README.md"));
        everyCallIsTold(page);
        everyConstantIsTold(page);
        theExampleAnswersSo(page);
        CHECK.holds("the command that runs the tests", page.contains(".ci/run"));
        CHECK.end();
    }

    private static List<String> pageOf(Path path) throws IOException {
        CHECK.holds("there is a README.md", Files.isRegularFile(path));
        return Files.isRegularFile(path) ? Files.readAllLines(path) : List.of();
    }

    private static int numbersIn(String list) {
        return list.isBlank() ? 0 : list.split(",").length;
    }

    private static Method callNamed(String name) {
        for (Method method : OtherSideInk.class.getDeclaredMethods()) {
            if (Modifier.isPublic(method.getModifiers()) && method.getName().equals(name)) {
                return method;
            }
        }
        return null;
    }

    private static void everyCallIsTold(List<String> page) {
        int told = 0;
        for (String line : page) {
            Matcher row = CALL_ROW.matcher(line);
            if (row.matches()) {
                Method call = callNamed(row.group(1));
                told++;
                CHECK.holds(row.group(1) + " is a call", call != null);
                CHECK.due("numbers of " + row.group(1), numbersIn(row.group(2)),
                        call == null ? -1 : call.getParameterCount());
            }
        }
        CHECK.due("calls told", told, 30);
        for (Method method : OtherSideInk.class.getDeclaredMethods()) {
            if (Modifier.isPublic(method.getModifiers())) {
                CHECK.holds(method.getName() + " is told",
                        page.stream().anyMatch(line -> line.startsWith("| `" + method.getName() + "(")));
            }
        }
    }

    private static void everyConstantIsTold(List<String> page) throws Exception {
        int told = 0;
        for (String line : page) {
            Matcher row = CONSTANT_ROW.matcher(line);
            if (row.matches()) {
                told++;
                CHECK.due(row.group(1), OtherSideInk.class.getField(row.group(1)).getInt(null),
                        Long.parseLong(row.group(2)));
            }
        }
        CHECK.due("constants told", told, 4);
    }

    private static void theExampleAnswersSo(List<String> page) throws Exception {
        OtherSideInk ink = new OtherSideInk();
        int answers = 0;
        for (String line : page) {
            Matcher written = WRITTEN.matcher(line);
            if (written.matches()) {
                Edge.write(ink, written.group(1));
            }
            Matcher example = EXAMPLE.matcher(line);
            if (example.matches()) {
                answers++;
                CHECK.due(line, answer(ink, example.group(1), example.group(2)), Long.parseLong(example.group(3)));
            }
        }
        CHECK.holds("there is an example", answers > 0);
    }

    private static long answer(OtherSideInk ink, String name, String list) throws Exception {
        Object[] numbers = new Object[numbersIn(list)];
        for (int i = 0; i < numbers.length; i++) {
            numbers[i] = Integer.valueOf(list.split(",")[i].trim());
        }
        Method call = callNamed(name);
        CHECK.holds(name + " is a call", call != null);
        return ((Number) call.invoke(ink, numbers)).longValue();
    }
}
