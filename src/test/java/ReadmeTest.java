import java.io.IOException;
import java.nio.file.Files;
import java.nio.file.Path;
import java.util.regex.Matcher;
import java.util.regex.Pattern;

/** The example of README.md: its calls, line by line, answer what their comments say. Run where the project lies. */
public final class ReadmeTest {
    private static final Pattern CALL = Pattern.compile("rows\\.(\\w+)\\(([-0-9, ]*)\\); +// (-?\\d+):.*");
    private static final Pattern TYPED = Pattern.compile(".*\"(.*)\"\\.toCharArray.*");

    private final FlexRows rows = new FlexRows();
    private int calls;

    public static void main(String[] args) throws IOException {
        ReadmeTest test = new ReadmeTest();
        for (String line : Files.readAllLines(Path.of("README.md"))) {
            test.follow(line);
        }
        Check.due("the calls that are found in the example", test.calls, 12);
        Check.finish();
    }

    private void follow(String line) {
        Matcher typed = TYPED.matcher(line);
        if (typed.matches()) {
            Check.type(rows, typed.group(1));
            Check.due("the length of the text", rows.count(6), 17);
        }
        Matcher call = CALL.matcher(line);
        if (call.matches()) {
            calls++;
            String[] written = call.group(2).isEmpty() ? new String[0] : call.group(2).split(", ");
            int[] values = new int[3];
            for (int k = 0; k < written.length; k++) {
                values[k] = Integer.parseInt(written[k]);
            }
            Check.due(line, answer(call.group(1), values), Integer.parseInt(call.group(3)));
        }
    }

    private int answer(String name, int[] values) {
        switch (name) {
            case "insert":
                return rows.insert(values[0]);
            case "change":
                return rows.change(values[0], values[1], values[2]);
            case "set":
                return rows.set(values[0], values[1]);
            case "undo":
                return rows.undo();
            case "lies":
                return rows.lies(values[0], values[1]);
            case "line":
                return rows.line(values[0], values[1]);
            case "at":
                return rows.at(values[0], values[1]);
            case "leastWidth":
                return rows.leastWidth(values[0], values[1]);
            default:
                Check.holds("the example's call " + name + " is known", false);
                return 0;
        }
    }
}
