import java.io.IOException;
import java.lang.reflect.Method;
import java.nio.file.Files;
import java.nio.file.Path;
import java.util.Arrays;
import java.util.Set;
import java.util.TreeSet;
import java.util.regex.Matcher;
import java.util.regex.Pattern;

/** The example of README.md: its calls are made, line by line, and answer what stands behind them. */
public final class ReadmeTest {
    private static final String START = "```java", FINISH = "```";
    private static final String MAKER = "TrajectoryCheck x = new TrajectoryCheck();";
    private static final Pattern TEXT = Pattern.compile("// \"(.*)\"");
    private static final Pattern CALL = Pattern.compile("x\\.(\\w+)\\((.*)\\);\\s+// (NONE|REFUSED|FULL|\\d+)(: .+)?");
    private static final Set<String> METHODS = Set.of(
        "feed", "end", "circuit", "assertion", "fails", "excluded", "failing", "shortfall", "value", "matters", "cone", "count");

    private static TrajectoryCheck x = null;
    /** What the example says that it feeds, and what its feeds bring: each stands there for the reader, so both agree. */
    private static String told = "";
    private static final StringBuilder fed = new StringBuilder();
    private static final Set<String> called = new TreeSet<>();

    public static void main(String[] args) throws IOException, ReflectiveOperationException {
        boolean inside = false;
        int examples = 0;
        for (String line : Files.readAllLines(Path.of("README.md"))) {
            if (line.equals(START)) {
                inside = true;
                examples++;
            } else if (line.equals(FINISH)) {
                inside = false;
            } else if (inside && !line.isBlank()) {
                follow(line);
            }
        }
        Drive.due("the examples of README.md", examples, 1);
        Drive.due("the methods in it " + called, called.equals(METHODS) ? 1 : 0, 1);
        Drive.finish("ReadmeTest");
    }

    private static void follow(String line) throws ReflectiveOperationException {
        Matcher text = TEXT.matcher(line);
        Matcher call = CALL.matcher(line);
        if (line.equals(MAKER)) {
            x = new TrajectoryCheck();
        } else if (text.matches()) {
            told = text.group(1);
        } else if (x != null && call.matches()) {
            int[] values = numbers(call.group(2));
            Drive.due(line, answer(call.group(1), values), meant(call.group(3)));
            compareTexts(call.group(1), values);
            called.add(call.group(1));
        } else {
            Drive.due("a line of the example that is no call with its answer: " + line, 0, 1);
        }
    }

    private static int[] numbers(String list) {
        return list.isEmpty() ? new int[0] : Arrays.stream(list.split(", ")).mapToInt(Integer::decode).toArray();
    }

    private static int answer(String method, int[] values) throws ReflectiveOperationException {
        Class<?>[] types = new Class<?>[values.length];
        Arrays.fill(types, int.class);
        Method found = TrajectoryCheck.class.getMethod(method, types);
        return (int) found.invoke(x, Arrays.stream(values).boxed().toArray());
    }

    private static int meant(String answer) throws ReflectiveOperationException {
        boolean number = Character.isDigit(answer.charAt(0));
        return number ? Integer.parseInt(answer) : TrajectoryCheck.class.getField(answer).getInt(null);
    }

    private static void compareTexts(String method, int[] values) {
        if (method.equals("feed")) {
            for (int value : values) {
                for (int shift = 24; shift >= 0; shift -= 8) {
                    fed.append((char) (value >> shift & 255));
                }
            }
        } else if (method.equals("end") && values[0] <= fed.length()) {
            fed.setLength(values[0]);
        } else if (method.equals("circuit") || method.equals("assertion")) {
            Drive.due("told is '" + told + "', fed is '" + fed + "'", told.contentEquals(fed) ? 1 : 0, 1);
            fed.setLength(0);
        }
    }
}
