import java.io.IOException;
import java.lang.reflect.Method;
import java.lang.reflect.Modifier;
import java.nio.file.Files;
import java.nio.file.Path;
import java.util.ArrayList;
import java.util.Arrays;
import java.util.List;
import java.util.regex.Matcher;
import java.util.regex.Pattern;
import java.util.stream.Collectors;

/** README.md: its example answers as it says, and its rows tell each call and each test there is. */
public final class ReadmeTest {
    private static final Pattern ROW_OF_A_CALL = Pattern.compile("\\| `(\\w+)\\(([^)]*)\\)` \\|.*\\|([^|]*)\\|");
    private static final Pattern EXCEPTION = Pattern.compile("`(\\w+Exception)`");

    private static List<String> lines;
    private static int shown = 0;

    public static void main(String[] args) throws IOException {
        lines = Files.readAllLines(Path.of("README.md"));
        example();
        rowsOfCalls();
        rowsOfTests();
        Check.end("ReadmeTest");
    }

    private static void example() {
        PaperMachine mill = new PaperMachine();
        int light = mill.addGrade(80);
        shows("int light = mill.addGrade(80);", light);
        int heavy = mill.addGrade(160);
        shows("int heavy = mill.addGrade(160);", heavy);
        int wide = mill.order(light, 250, 3);
        shows("int wide = mill.order(light, 250, 3);", wide);
        int thin = mill.order(heavy, 150, 4);
        shows("int thin = mill.order(heavy, 150, 4);", thin);
        shows("mill.change(light);", mill.change(light));
        shows("mill.pass(1);", mill.pass(1));
        shows("mill.broke();", mill.broke());
        shows("mill.trim(light);", mill.trim(light));
        shows("mill.pass(2);", mill.pass(2));
        shows("mill.lacks(wide);", mill.lacks(wide));
        shows("mill.next();", mill.next());
        shows("mill.change(heavy);", mill.change(heavy));
        shows("mill.pass(4);", mill.pass(4));
        shows("mill.made(2);", mill.made(2));
        shows("mill.made(3);", mill.made(3));
        shows("mill.fresh();", mill.fresh());
        shows("mill.paper();", mill.paper());
        shows("mill.broke();", mill.broke());
        shows("mill.lost();", mill.lost());
        shows("mill.paperShare();", mill.paperShare());
        Check.same("answers in the example", shown, lines.stream().filter(l -> l.contains(";  ")).count());
    }

    /** The next line of the example is this call, with its answer behind it. */
    private static void shows(String call, Object answer) {
        int first = lines.indexOf("PaperMachine mill = new PaperMachine();");
        shown++;
        int at = first + shown;
        String line = first >= 0 && at < lines.size() ? lines.get(at) : "";
        String[] parts = line.split(" +// |: ");
        Check.same("line " + shown + " of the example", parts[0], call);
        Check.same("the answer behind " + call, parts.length > 1 ? parts[1] : "", String.valueOf(answer));
    }

    private static void rowsOfCalls() {
        List<String> rows = new ArrayList<>();
        for (String line : lines) {
            Matcher row = ROW_OF_A_CALL.matcher(line);
            if (row.matches()) {
                rows.add(told(row.group(1), row.group(2).isEmpty() ? 0 : row.group(2).split(", ").length,
                        EXCEPTION.matcher(row.group(3)).results().map(r -> r.group(1)).collect(Collectors.toList())));
            }
        }
        int calls = 0;
        for (Method method : PaperMachine.class.getDeclaredMethods()) {
            if (Modifier.isPublic(method.getModifiers())) {
                calls++;
                String due = told(method.getName(), method.getParameterCount(), Arrays.stream(
                        method.getExceptionTypes()).map(Class::getSimpleName).collect(Collectors.toList()));
                Check.same("rows of " + due, rows.stream().filter(due::equals).count(), 1);
            }
        }
        Check.same("rows of calls", rows.size(), calls);
    }

    private static String told(String name, int numbers, List<String> exceptions) {
        return name + " with " + numbers + " numbers, throws " + exceptions;
    }

    private static void rowsOfTests() throws IOException {
        String page = String.join("\n", lines);
        try (var files = Files.list(Path.of("src/test/java"))) {
            for (Path file : files.sorted().collect(Collectors.toList())) {
                String name = file.getFileName().toString().replace(".java", "");
                Check.same("the page tells of " + name, page.contains("`" + name + "`") ? 1 : 0, 1);
            }
        }
    }
}
