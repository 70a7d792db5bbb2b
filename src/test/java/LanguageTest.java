import java.io.IOException;
import java.nio.file.Files;
import java.nio.file.Path;
import java.util.regex.Matcher;
import java.util.regex.Pattern;

/** Looks into the source for what LANGUAGE.md rules out; it is run where the project lies. */
public final class LanguageTest {
    private static final String[] RULED_OUT = {
        "\\b(throw|throws|try|catch|synchronized|assert|import|package|protected|volatile|transient)\\b",
        "\\b(Object|Exception|Error|System\\.(out|err|in|exit|nanoTime|currentTimeMillis))\\b",
        "\\b\\w+Exact\\b", "\\b(hashCode|equals|toString|values)\\(", "->", "::", "@", "\\bInteger\\.M\\w+",
        "\\bstatic\\s*\\{", "\\bstatic (?!final|int|long|boolean|String|class)\\w+"};

    public static void main(String[] args) throws IOException {
        String source = withoutComments(Files.readString(Path.of("src/main/java/FlexRows.java")));
        for (String ruledOut : RULED_OUT) {
            Matcher found = Pattern.compile(ruledOut).matcher(source);
            Check.due("\"" + ruledOut + "\" in the source", found.find() ? 1 : 0, 0);
        }
        onlyPrintableSigns(source);
        shortMethods(source);
        Check.finish();
    }

    private static String withoutComments(String source) {
        return source.replaceAll("(?s)/\\*.*?\\*/", "").replaceAll("//[^\\n]*", "");
    }

    private static void onlyPrintableSigns(String source) {
        for (char sign : source.toCharArray()) {
            Check.due("sign " + (int) sign, sign == '\n' || sign >= ' ' && sign <= '~' ? 1 : 0, 1);
        }
    }

    /** A method begins at a line that ends with ") {" and no word of a statement ahead, and ends at its brace. */
    private static void shortMethods(String source) {
        String[] lines = source.split("\n");
        for (int from = 0; from < lines.length; from++) {
            boolean begins = lines[from].matches("( {4}| {8})(public|private|static|final|int|boolean|void|[A-Z]\\w*\\().*\\) \\{");
            if (!begins) {
                continue;
            }
            String indent = lines[from].replaceAll("\\S.*", "");
            int to = from;
            while (!lines[to].equals(indent + "}")) {
                to++;
            }
            Check.due("the lines of" + lines[from] + " are at most 60", to - from < 60 ? 1 : 0, 1);
        }
    }
}
