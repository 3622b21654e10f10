import java.io.IOException;
import java.lang.reflect.Method;
import java.nio.file.Files;
import java.nio.file.Path;
import java.util.Arrays;
import java.util.regex.Matcher;
import java.util.regex.Pattern;

/** README.md tells how the class is used: what it says there is so. */
public final class ReadmeTest {
    private static final Pattern TOLD = Pattern.compile("tell\\(x, \"(.*)\"\\);\\s+// (-?\\d+):.*");
    private static final Pattern CALLED = Pattern.compile("x\\.(\\w+)\\(([-\\d, ]*)\\);\\s+// (-?\\d+):.*");
    private static final Pattern STATEMENT = Pattern.compile("\\| `\\w`, .*`(\\w+;)` \\|");
    private static final Pattern TRY = Pattern.compile("\\| (\\d) [a-z ]+\\| size(?: and (\\d+))?[a-z \\d]*\\| (\\d) \\| (\\d) \\| (\\d) \\|.*");

    private static int called(RingAndFinger x, String name, String told) throws ReflectiveOperationException {
        Object[] numbers = told.isEmpty() ? new Object[0]
            : Arrays.stream(told.split(", ")).map(Integer::valueOf).toArray();
        Class<?>[] types = new Class<?>[numbers.length];
        Arrays.fill(types, int.class);
        Method m = RingAndFinger.class.getMethod(name, types);
        return (Integer) m.invoke(x, numbers);
    }

    private static boolean example(RingAndFinger x, String line) throws ReflectiveOperationException {
        Matcher told = TOLD.matcher(line);
        Matcher call = CALLED.matcher(line);
        if (told.matches()) {
            Edges.due(line, Edges.tell(x, told.group(1)), Integer.parseInt(told.group(2)));
            return true;
        }
        if (call.matches()) {
            Edges.due(line, called(x, call.group(1), call.group(2)), Integer.parseInt(call.group(3)));
            return true;
        }
        return false;
    }

    private static boolean tries(String line) {
        Matcher m = TRY.matcher(line);
        if (!m.matches()) {
            return false;
        }
        RingAndFinger x = new RingAndFinger();
        int kind = Integer.parseInt(m.group(1));
        int less = line.contains("less broad") ? x.count(17) : 0;
        Edges.due(line, x.kind(kind, 0), (m.group(2) == null ? 0 : Integer.parseInt(m.group(2))) - less);
        for (int what = 1; what <= 3; what++) {
            Edges.due(line, x.kind(kind, what), Integer.parseInt(m.group(2 + what)));
        }
        return true;
    }

    // README.md, "Use": each line of the example with an answer behind it, each statement and each try of the tables.
    private static void readmeUse() throws IOException, ReflectiveOperationException {
        RingAndFinger x = new RingAndFinger();
        int examples = 0;
        int statements = 0;
        int kinds = 0;
        for (String line : Files.readAllLines(Path.of("README.md"))) {
            examples += example(x, line) ? 1 : 0;
            kinds += tries(line) ? 1 : 0;
            Matcher m = STATEMENT.matcher(line);
            if (m.matches()) {
                statements++;
                Edges.due("hand of " + m.group(1), Edges.tell(Edges.of("pp170;"), m.group(1)), 1);
            }
        }
        Edges.due("lines of the example", examples, 15);
        Edges.due("statements", statements, 7);
        Edges.due("kinds of tries", kinds, 7);
    }

    // README.md, "The calls": each method of the class is told there.
    private static void readmeCalls() throws IOException {
        String text = Files.readString(Path.of("README.md"));
        for (Method m : RingAndFinger.class.getMethods()) {
            if (m.getDeclaringClass() == RingAndFinger.class) {
                Edges.due("README tells of " + m.getName(), text.contains("`" + m.getName() + "(") ? 1 : 0, 1);
            }
        }
    }

    public static void main(String[] args) throws ReflectiveOperationException {
        Edges.runAll(ReadmeTest.class);
    }
}
