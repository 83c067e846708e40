import java.io.IOException;
import java.lang.reflect.Method;
import java.lang.reflect.Modifier;
import java.nio.file.Files;
import java.nio.file.Path;
import java.util.List;
import java.util.regex.Matcher;
import java.util.regex.Pattern;

/** What README.md tells of the class; the path of the class's file is the argument. */
public final class ReadmeTest {
    private static final Pattern EXAMPLE_CALL = Pattern.compile("text\\.(\\w+\\([^)]*\\)); *// (-?\\d+)(:.*)?");
    private static final Pattern SETTING_ROW = Pattern.compile(
            "\\| (\\d) \\| [^|]* \\| (-?[\\d,]+) \\| (-?[\\d,]+) \\.\\. (-?[\\d,]+) \\|");

    private ReadmeTest() {
    }

    public static void main(String[] args) throws IOException {
        Path root = Path.of(args[0]).toAbsolutePath().getParent().getParent().getParent().getParent();
        List<String> readme = Files.readAllLines(root.resolve("README.md"));
        checkExample(readme);
        checkCalls(readme);
        checkSettings(readme);
        Check.finish("ReadmeTest");
    }

    /** The same calls as in the example, in its order, each with what the class answers. */
    private static void checkExample(List<String> readme) {
        OptimalLines text = new OptimalLines();
        text.width(0, 300);
        String[] due = {
            "box(120) " + text.box(120),
            "glue(50, 25, 17, 0) " + text.glue(50, 25, 17, 0),
            "box(115) " + text.box(115),
            "glue(50, 25, 17, 0) " + text.glue(50, 25, 17, 0),
            "box(90) " + text.box(90),
            "penalty(0, 10_000, false) " + text.penalty(0, 10_000, false),
            "glue(0, 0, 0, 1) " + text.glue(0, 0, 0, 1),
            "breakUp() " + text.breakUp(),
            "pass() " + text.pass(),
            "demerits() " + text.demerits(),
            "line(0, 1) " + text.line(0, 1),
            "line(0, 2) " + text.line(0, 2),
            "lineOf(3) " + text.lineOf(3),
            "place(2) " + text.place(2)};
        int found = 0;
        for (String line : readme) {
            Matcher call = EXAMPLE_CALL.matcher(line);
            if (call.matches()) {
                String told = call.group(1) + " " + call.group(2);
                Check.same("a call of the example", told, found < due.length ? due[found] : "none");
                found++;
            }
        }
        Check.same("calls in the example", Integer.toString(found), Integer.toString(due.length));
    }

    private static void checkCalls(List<String> readme) {
        for (Method method : OptimalLines.class.getDeclaredMethods()) {
            if (Modifier.isPublic(method.getModifiers())) {
                String row = "| `" + method.getName() + "(";
                Check.isTrue("a row for " + method.getName(), readme.stream().anyMatch(line -> line.startsWith(row)));
            }
        }
    }

    private static void checkSettings(List<String> readme) {
        int rows = 0;
        for (String line : readme) {
            Matcher row = SETTING_ROW.matcher(line);
            if (row.matches()) {
                int least = number(row.group(3));
                int most = number(row.group(4));
                checkSetting(Integer.parseInt(row.group(1)), number(row.group(2)), least, most);
                rows++;
            }
        }
        Check.same("rows of settings", Integer.toString(rows), "8");
    }

    private static void checkSetting(int what, int first, int least, int most) {
        OptimalLines text = new OptimalLines();
        Check.fails("setting " + what + " below", () -> text.setting(what, least - 1), Check.ARGUMENT);
        Check.fails("setting " + what + " above", () -> text.setting(what, most + 1), Check.ARGUMENT);
        Check.answers("setting " + what + " at first", () -> text.setting(what, least), first);
        Check.answers("the least of setting " + what, () -> text.setting(what, most), least);
        Check.answers("the most of setting " + what, () -> text.setting(what, most), most);
    }

    private static int number(String text) {
        return Integer.parseInt(text.replace(",", ""));
    }
}
