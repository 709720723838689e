import java.io.IOException;
import java.lang.reflect.Field;
import java.lang.reflect.Method;
import java.lang.reflect.Modifier;
import java.nio.charset.StandardCharsets;
import java.nio.file.Files;
import java.nio.file.Path;
import java.util.regex.Matcher;
import java.util.regex.Pattern;

/** README.md names all that a program may use, and its example answers what it says. */
public final class ReadmeTest {
    private static final Due DUE = new Due("ReadmeTest");
    private static final Path README = Path.of("README.md");
    private static final Pattern CALL = Pattern.compile("(?m)^\\| `(\\w+)\\(([^)]*)\\)`( \\*)? \\| ([^|]+) \\|");
    private static final Pattern EXAMPLE =
        Pattern.compile("(?m)^ +maps\\.(\\w+)\\(([^)]*)\\); +// (-?\\d+|[A-Z_]+): .+$");

    public static void main(String[] args) throws IOException, ReflectiveOperationException {
        String page = Files.readString(README, StandardCharsets.UTF_8);
        everyCallIsNamed(page);
        everyChangeIsMarked(page);
        everyConstantIsNamed(page);
        everyWhatIsNamed(page);
        theExampleAnswersWhatItSays(page);
        howItIsCompiledAndTested(page);
        DUE.finish();
    }

    private static int countOf(String arguments) {
        return arguments.isBlank() ? 0 : arguments.split(",").length;
    }

    private static void everyCallIsNamed(String page) {
        int methods = 0;
        for (Method method : MapSheets.class.getDeclaredMethods()) {
            if (!Modifier.isPublic(method.getModifiers())) {
                continue;
            }
            methods++;
            int rows = 0;
            Matcher call = CALL.matcher(page);
            while (call.find()) {
                boolean isIt = call.group(1).equals(method.getName());
                rows += isIt && countOf(call.group(2)) == method.getParameterCount() ? 1 : 0;
            }
            DUE.same("rows of " + method.getName(), rows, 1);
        }
        int rows = 0;
        Matcher call = CALL.matcher(page);
        while (call.find()) {
            rows++;
        }
        DUE.same("rows of calls", rows, methods);
    }

    private static void everyChangeIsMarked(String page) {
        String changes = " grid set show erase mean agree release settle publish scale read ";
        Matcher call = CALL.matcher(page);
        while (call.find()) {
            boolean isChange = changes.contains(" " + call.group(1) + " ");
            DUE.holds("mark of " + call.group(1), (call.group(3) != null) == isChange);
        }
    }

    private static void everyConstantIsNamed(String page) throws IllegalAccessException {
        for (Field field : MapSheets.class.getDeclaredFields()) {
            if (Modifier.isPublic(field.getModifiers())) {
                String row = "\n| `" + field.getName() + "` | " + field.getInt(null) + " | ";
                DUE.holds("row of " + field.getName(), page.contains(row));
            }
        }
    }

    /** The list of a call goes from 0 to the last what that it takes. */
    private static void everyWhatIsNamed(String page) {
        MapSheets x = new MapSheets();
        x.show(0, 1, 0, 0);
        x.show(1, 3, 0, 1);
        for (int what = 0; what < 17; what++) {
            whatIsNamed(page, "sheet", what, x.sheet(0, what));
            whatIsNamed(page, "count", what, x.count(what));
            whatIsNamed(page, "edge", what, x.edge(0, what));
            whatIsNamed(page, "quarrel", what, x.quarrel(0, 0, what));
        }
    }

    private static void whatIsNamed(String page, String call, int what, int answer) {
        int start = page.indexOf("- `" + call + "`: 0 ");
        int end = start < 0 ? -1 : page.indexOf('.', start);
        DUE.holds("a list for " + call, end > start);
        if (end > start) {
            String list = page.substring(start, end).replaceAll("\\([^)]*\\)", "").replaceAll("\\s+", " ");
            boolean isNamed = list.contains(": " + what + " ") || list.contains(", " + what + " ");
            DUE.holds(what + " in the list for " + call, isNamed == (answer != MapSheets.INVALID_ARGUMENT));
        }
    }

    private static void theExampleAnswersWhatItSays(String page) throws ReflectiveOperationException {
        MapSheets maps = new MapSheets();
        int lines = 0;
        Matcher line = EXAMPLE.matcher(page);
        while (line.find()) {
            lines++;
            DUE.same(line.group().trim(), answer(maps, line.group(1), line.group(2)), told(line.group(3)));
        }
        DUE.same("lines of the example", lines, page.split("\n +maps\\.", -1).length - 1);
        DUE.holds("the example has lines", lines > 0);
        DUE.same("there is no edge 7", maps.agree(7), MapSheets.INVALID_ARGUMENT);
    }

    private static int answer(MapSheets maps, String name, String arguments) throws ReflectiveOperationException {
        int count = countOf(arguments);
        Object[] values = new Object[count];
        Class<?>[] types = new Class<?>[count];
        for (int i = 0; i < count; i++) {
            values[i] = Integer.valueOf(arguments.split(",")[i].trim());
            types[i] = int.class;
        }
        return (int) MapSheets.class.getMethod(name, types).invoke(maps, values);
    }

    private static int told(String answer) throws ReflectiveOperationException {
        boolean isNumber = answer.charAt(0) < 'A';
        return isNumber ? Integer.parseInt(answer) : MapSheets.class.getField(answer).getInt(null);
    }

    private static void howItIsCompiledAndTested(String page) throws IOException {
        DUE.holds("how it is compiled", page.contains("\n    javac -d build src/main/java/MapSheets.java\n"));
        DUE.holds("how an object is made", page.contains("`new MapSheets()`"));
        DUE.holds("how the tests are run", page.contains("\n    bash .ci/run\n"));
        try (var files = Files.list(Path.of("src/test/java"))) {
            files.map(file -> file.getFileName().toString()).filter(name -> name.endsWith("Test.java"))
                .forEach(name -> DUE.holds("the page names " + name,
                    page.contains("`" + name.replace(".java", "") + "`")));
        }
    }
}
