import java.io.IOException;
import java.lang.reflect.Constructor;
import java.lang.reflect.Executable;
import java.lang.reflect.Field;
import java.lang.reflect.Method;
import java.lang.reflect.Modifier;
import java.nio.file.Files;
import java.nio.file.Path;
import java.util.ArrayList;
import java.util.HashSet;
import java.util.List;
import java.util.Set;
import java.util.regex.Matcher;
import java.util.regex.Pattern;

/**
 * Looks for what LANGUAGE.md rules out, in the words of the source and in the members of its classes; the numbers
 * are those of its rules. LibraryTest looks at the calls. It is run where the project lies.
 */
public final class LanguageTest {
    private static final String[] RULED_OUT = {
        "\\b(throw|throws|try|catch|synchronized|assert|import|package|protected|volatile|transient)\\b",
        "\\b(Object|Exception|Error|System\\.(out|err|in|exit|nanoTime|currentTimeMillis))\\b",
        "\\b\\w+Exact\\b", "\\b(hashCode|equals|toString|values)\\(", "->", "::", "@", "\\bInteger\\.M\\w+",
        "\\bstatic\\s*\\{", "\\bstatic (?!final|int|long|boolean|String|class)\\w+"};
    private static final String METHOD =
            "( {4}| {8})(public|private|static|final|int|boolean|void|[A-Z]\\w*\\().*\\) \\{";

    public static void main(String[] args) throws IOException {
        String source = withoutComments(Files.readString(Path.of("src/main/java/FlexRows.java")));
        for (String ruledOut : RULED_OUT) {
            Matcher found = Pattern.compile(ruledOut).matcher(source);
            Check.holds("\"" + ruledOut + "\" is not in the source", !found.find());
        }
        onlyPrintableSigns(source);
        shortMethods(source);

        List<Class<?>> classes = new ArrayList<>(List.of(FlexRows.class));
        classes.addAll(List.of(FlexRows.class.getDeclaredClasses()));
        Check.holds("11: at most 12 classes", classes.size() <= 12);
        for (Class<?> some : classes) {
            itsPlace(some);
            itsFields(some);
            itsMethods(some);
        }
        Check.finish();
    }

    private static String withoutComments(String source) {
        return source.replaceAll("(?s)/\\*.*?\\*/", "").replaceAll("//[^\\n]*", "");
    }

    private static void onlyPrintableSigns(String source) {
        for (char sign : source.toCharArray()) {
            Check.holds("4: the sign " + (int) sign, sign == '\n' || sign >= ' ' && sign <= '~');
        }
    }

    /** A method begins at a line that ends with ") {" and no word of a statement ahead, and ends at its brace. */
    private static void shortMethods(String source) {
        String[] lines = source.split("\n");
        for (int from = 0; from < lines.length; from++) {
            if (!lines[from].matches(METHOD)) {
                continue;
            }
            String indent = lines[from].replaceAll("\\S.*", "");
            int to = from;
            while (!lines[to].equals(indent + "}")) {
                to++;
            }
            Check.holds("11: the lines of" + lines[from] + " are at most 60", to - from < 60);
        }
    }

    private static void itsPlace(Class<?> some) {
        if (some == FlexRows.class) {
            return;
        }
        Check.holds("2: static: " + some, Modifier.isStatic(some.getModifiers()));
        Check.holds("1: not seen from outside: " + some,
                !Modifier.isPublic(some.getModifiers()) && !Modifier.isProtected(some.getModifiers()));
        Check.due("2: no classes inside " + some, some.getDeclaredClasses().length, 0);
    }

    private static void itsFields(Class<?> some) {
        int fields = 0;
        for (Field field : some.getDeclaredFields()) {
            boolean constant = Modifier.isStatic(field.getModifiers());
            fields += constant ? 0 : 1;
            Check.holds("3: the type of " + field, isKnown(field.getType()));
            Check.holds("5: static, and so final: " + field, !constant || Modifier.isFinal(field.getModifiers()));
            Check.holds("5: the type of " + field, !constant || Set.of("int", "long", "boolean", "char", "String",
                    "int[]", "long[]", "char[]", "byte[]").contains(field.getType().getSimpleName()));
        }
        Check.holds("11: at most 20 fields in " + some, fields <= 20);
    }

    private static boolean isKnown(Class<?> type) {
        Class<?> part = type.isArray() ? type.getComponentType() : type;
        return part.isPrimitive() || part == String.class || part.getEnclosingClass() == FlexRows.class
                || part.isArray() && part.getComponentType().isPrimitive();
    }

    private static void itsMethods(Class<?> some) {
        Set<String> seen = new HashSet<>();
        for (Method method : FlexRows.class.getDeclaredMethods()) {
            if (Modifier.isPublic(method.getModifiers())) {
                seen.add(method.getName());
            }
        }
        for (Method method : some.getDeclaredMethods()) {
            boolean hidden = Modifier.isPrivate(method.getModifiers());
            boolean borne = seen.contains(method.getName());
            Check.holds("1: a name that no public method bears: " + method, !hidden || !borne);
            fewParameters(method);
        }
        for (Constructor<?> made : some.getDeclaredConstructors()) {
            fewParameters(made);
        }
    }

    private static void fewParameters(Executable some) {
        Check.holds("11: at most seven parameters: " + some, some.getParameterCount() <= 7);
    }
}
