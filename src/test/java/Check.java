import java.util.function.IntSupplier;

/** What the tests share: they compare answers, count the wrong ones, and type texts. */
final class Check {
    static final int NONE = -1001;
    static final int BAD = -1002;
    static final int STATE = -1003;
    static final int FULL = -1004;

    private static int wrong = 0;

    private Check() {
    }

    static void due(String call, long got, long want) {
        if (got != want) {
            wrong++;
            System.out.println(call + " answered " + got + ", due is " + want);
        }
    }

    /** What is due to be so. */
    static void holds(String what, boolean so) {
        due(what, so ? 1 : 0, 1);
    }

    /** A call that is due to answer an error, and to leave all that can be told as it was. */
    static void refused(FlexRows rows, String call, int want, IntSupplier made) {
        long before = rows.digest();
        due(call, made.getAsInt(), want);
        due("digest() after " + call, rows.digest(), before);
    }

    /** Ends the test: the exit code tells whether an answer was wrong. */
    static void finish() {
        System.out.println(wrong == 0 ? "all answers are as due" : wrong + " answers are not as due");
        if (wrong != 0) {
            System.exit(1);
        }
    }

    static void type(FlexRows rows, String text) {
        rows.clear();
        for (char letter : text.toCharArray()) {
            rows.type(letter);
        }
    }

    static int insert(FlexRows rows, int item, String text) {
        type(rows, text);
        return rows.insert(item);
    }

    /** Inserts the text into a new object: it is due to be read, with the properties from the base on. */
    static void reads(String text, int... properties) {
        FlexRows rows = new FlexRows();
        due("insert of \"" + text + "\"", insert(rows, 0, text), 1);
        for (int what = 0; what < properties.length; what++) {
            due("\"" + text + "\": item(0, " + what + ")", rows.item(0, what), properties[what]);
        }
        due("\"" + text + "\": item(0, 10)", rows.item(0, 10), 0);
    }

    /** Inserts the text into a new object: it is due to be refused for its fault. */
    static void faulty(String text, int fault) {
        FlexRows rows = new FlexRows();
        type(rows, text);
        refused(rows, "insert of \"" + text + "\"", -2000 - fault, () -> rows.insert(0));
        due("bytes after a fault", rows.count(6), text.length());
    }

    /** A box with one item for each text, in their order. */
    static FlexRows with(String... texts) {
        FlexRows rows = new FlexRows();
        for (int k = 0; k < texts.length; k++) {
            due("insert of \"" + texts[k] + "\"", insert(rows, k, texts[k]), k + 1);
        }
        return rows;
    }

    /** What a telling call answers for one item, or line, after the other. */
    static void lie(FlexRows rows, int what, int... wanted) {
        for (int item = 0; item < wanted.length; item++) {
            due("lies(" + item + ", " + what + ")", rows.lies(item, what), wanted[item]);
        }
    }

    static void lineTells(FlexRows rows, int what, int... wanted) {
        for (int line = 0; line < wanted.length; line++) {
            due("line(" + line + ", " + what + ")", rows.line(line, what), wanted[line]);
        }
    }
}
