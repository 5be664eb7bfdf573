import java.io.IOException;
import java.lang.reflect.Method;
import java.lang.reflect.Modifier;
import java.nio.file.Files;
import java.nio.file.Path;
import java.util.ArrayList;
import java.util.List;
import java.util.regex.Matcher;
import java.util.regex.Pattern;

/** README.md's examples answer what stands behind them, and it tells each call of the face. */
final class ReadmeTest {
    private static final Path README = Path.of("README.md");
    private static final Path SELF = Path.of("src", "test", "java", "ReadmeTest.java");
    private static final Check check = new Check("ReadmeTest");

    // example: the lines of a method stand in README.md, one by one
    private static void words() {
        WireLoom loom = new WireLoom();
        loom.lay(0, 0x03);
        loom.lay(1, 0x06);
        int told = loom.read(0);
        loom.set(0, 5);
        int sneaking = loom.threadOf(0, 5);
        loom.guard(1);
        int silent = loom.threadOf(0, 5);
        int lasts = loom.lastsFor(0);
        // end of the example
        check.due("told", told, 3);
        check.due("sneaking", sneaking, 4);
        check.due("silent", silent, 0);
        check.due("lasts", lasts, 35);
    }

    private static void machine() {
        WireLoom other = new WireLoom();
        for (char sign : "3f.e0.00".toCharArray()) {
            other.append(sign);
        }
        int changes = other.ifLoaded(0);
        int changed = other.load(0);
        int steps = other.go(99);
        int count = other.told(0);
        int left = other.undo();
        int running = other.machine(6);
        int length = other.write(0, 2);
        // end of the example
        check.due("changes", changes, 9);
        check.due("changed", changed, 9);
        check.due("steps", steps, 3);
        check.due("count", count, 31);
        check.due("left", left, 1);
        check.due("running", running, 1);
        check.due("length", length, 6);
        Looms.type(other, "3fe000");
        long typed = other.digest();
        other.write(0, 2);
        check.due("what is written", other.digest(), typed);
    }

    /** The lines of the examples in a text, without what stands behind "//". */
    private static List<String> lines(String text, String begin, String end) {
        List<String> lines = new ArrayList<>();
        Matcher matcher = Pattern.compile(begin + "(.*?)" + end, Pattern.DOTALL).matcher(text);
        while (matcher.find()) {
            for (String line : matcher.group(1).split("\n")) {
                String code = line.replaceAll("//.*", "").strip();
                if (!code.isEmpty()) {
                    lines.add(code);
                }
            }
        }
        return lines;
    }

    /** The numbers behind the lines are the ones that are due above. */
    private static void numbers(String readme, String self) {
        Matcher answer = Pattern.compile("int ([a-z]+) = [^;]*; +// ([0-9]+)").matcher(readme);
        int answers = 0;
        while (answer.find()) {
            answers++;
            String due = "check.due(\"" + answer.group(1) + "\", " + answer.group(1) + ", " + answer.group(2) + ");";
            check.due(answer.group() + " is tested", self.contains(due));
        }
        check.due("each answer of the examples stands behind its line", answers, 11);
    }

    /** Each call stands in the table just once, with a star if it is undoable. */
    private static void calls(String readme) {
        String undoable = " cross lay guard change set read start go load goBack ";
        int calls = 0;
        for (Method method : WireLoom.class.getDeclaredMethods()) {
            if (Modifier.isPublic(method.getModifiers())) {
                calls++;
                String row = "\n\\| `" + method.getName() + "\\((?:[a-z]+(?:, )?){" + method.getParameterCount() + "}\\)`"
                    + (undoable.contains(" " + method.getName() + " ") ? " \\* \\|" : " \\|");
                check.due("the row of " + method.getName(), readme.split(row, -1).length == 2);
            }
        }
        check.due("rows of the table", readme.split("\n\\| `", -1).length - 1, calls);
    }

    public static void main(String[] args) throws IOException {
        String readme = Files.readString(README);
        String self = Files.readString(SELF);
        words();
        machine();
        List<String> told = lines(readme, "```java\n", "```");
        List<String> run = lines(self, "private static void (?:words|machine)\\(\\) \\{\n", "// end of the example");
        check.due("the examples are what is run here: " + told + " " + run, told.equals(run));
        numbers(readme, self);
        calls(readme);
        check.end();
    }
}
