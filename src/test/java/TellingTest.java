/** Promises 11 to 18: ends and wrong inputs of the calls that tell, least widths, and the digest. */
public final class TellingTest {
    private static final int LEAST_INT = Integer.MIN_VALUE;
    private static final int GREATEST_INT = Integer.MAX_VALUE;

    public static void main(String[] args) {
        itemErrors();
        liesErrors();
        orderedErrors();
        lineErrors();
        countErrors();
        countsAndNumbers();
        leastWidthErrors();
        leastWidthForLines();
        leastWidthForRests();
        leastWidthOfANarrowBox();
        tellingChangesNothing();
        digests();
        Check.finish();
    }

    private static void itemErrors() {
        FlexRows rows = Check.with("10");
        Check.due("item(1, 0)", rows.item(1, 0), Check.BAD);
        Check.due("item(-1, 0)", rows.item(-1, 0), Check.BAD);
        Check.due("item(0, 12)", rows.item(0, 12), Check.BAD);
        Check.due("item(0, -1)", rows.item(0, -1), Check.BAD);
        Check.due("item(greatest, 0)", rows.item(GREATEST_INT, 0), Check.BAD);
        Check.due("item(0, least)", rows.item(0, LEAST_INT), Check.BAD);
        Check.due("item(0, 11)", rows.item(0, 11), 10);
    }

    private static void liesErrors() {
        FlexRows rows = Check.with("10");
        Check.due("lies(1, 0)", rows.lies(1, 0), Check.BAD);
        Check.due("lies(-1, 0)", rows.lies(-1, 0), Check.BAD);
        Check.due("lies(0, 8)", rows.lies(0, 8), Check.BAD);
        Check.due("lies(0, -1)", rows.lies(0, -1), Check.BAD);
        rows.hide(0);
        Check.due("lies(0, 7) of a hidden item", rows.lies(0, 7), Check.STATE);
        Check.due("BAD comes before STATE", rows.lies(0, 8), Check.BAD);
        Check.due("lies(greatest, greatest)", rows.lies(GREATEST_INT, GREATEST_INT), Check.BAD);
    }

    private static void orderedErrors() {
        FlexRows rows = Check.with("10");
        Check.due("ordered(-1)", rows.ordered(-1), Check.BAD);
        Check.due("ordered(least)", rows.ordered(LEAST_INT), Check.BAD);
        Check.due("ordered(1)", rows.ordered(1), Check.NONE);
        Check.due("ordered(greatest)", rows.ordered(GREATEST_INT), Check.NONE);
    }

    private static void lineErrors() {
        FlexRows rows = Check.with("10");
        Check.due("line(-1, 0)", rows.line(-1, 0), Check.BAD);
        Check.due("line(least, 0)", rows.line(LEAST_INT, 0), Check.BAD);
        Check.due("line(0, -1)", rows.line(0, -1), Check.BAD);
        Check.due("line(0, 8)", rows.line(0, 8), Check.BAD);
        Check.due("BAD comes before NONE", rows.line(1, 8), Check.BAD);
        Check.due("line(1, 7)", rows.line(1, 7), Check.NONE);
        Check.due("line(16, 0)", rows.line(16, 0), Check.NONE);
        Check.due("line(greatest, 0)", rows.line(GREATEST_INT, 0), Check.NONE);
    }

    private static void countErrors() {
        FlexRows rows = new FlexRows();
        Check.due("count(-1)", rows.count(-1), Check.BAD);
        Check.due("count(14)", rows.count(14), Check.BAD);
        Check.due("count(least)", rows.count(LEAST_INT), Check.BAD);
        Check.due("count(greatest)", rows.count(GREATEST_INT), Check.BAD);
    }

    private static void countsAndNumbers() {
        FlexRows rows = Check.with("200height7", "200height8", "50");
        rows.hide(2);
        int[] box = {400, 11, 12, 0, 5, 2, 1};
        for (int what = 0; what < box.length; what++) {
            rows.set(what, box[what]);
        }
        rows.set(3, 1);
        int[] wanted = {3, 1, 2, 27, 300, 8, 2, 400, 11, 12, 1, 5, 2, 1};
        for (int what = 0; what < wanted.length; what++) {
            Check.due("count(" + what + ")", rows.count(what), wanted[what]);
        }
    }

    private static void leastWidthErrors() {
        FlexRows rows = Check.with("10");
        int[][] bad = {{-1, 1}, {2, 0}, {2, 1}, {0, 0}, {0, 17}, {0, -1}, {1, 1}, {1, -1}, {1, 16},
            {GREATEST_INT, 0}, {LEAST_INT, 0}, {0, GREATEST_INT}, {0, LEAST_INT}, {1, GREATEST_INT}};
        for (int[] call : bad) {
            Check.due("leastWidth(" + call[0] + ", " + call[1] + ")", rows.leastWidth(call[0], call[1]), Check.BAD);
        }
    }

    private static void leastWidthForLines() {
        FlexRows rows = Check.with("100margin5", "60", "90", "50");
        rows.set(1, 10);
        // 110, 60, 90, 50 with gaps of 10.
        int[] wanted = {340, 180, 150, 20};
        for (int n = 1; n <= wanted.length; n++) {
            Check.due("leastWidth(0, " + n + ")", rows.leastWidth(0, n), wanted[n - 1]);
        }
        Check.due("leastWidth(0, 16)", rows.leastWidth(0, 16), 20);
        for (int n = 1; n <= 3; n++) {
            rows.set(0, wanted[n - 1]);
            Check.due("lines at it", rows.count(2), n);
            rows.set(0, wanted[n - 1] - 1);
            Check.holds("more than " + n + " lines below it", rows.count(2) > n);
        }
        rows.set(3, 0);
        Check.due("leastWidth(0, 1) without wrapping", rows.leastWidth(0, 1), 20);

        FlexRows wide = Check.with("400", "400", "199");
        Check.due("leastWidth(0, 1)", wide.leastWidth(0, 1), 999);
        wide.change(2, 0, 200);
        Check.due("leastWidth(0, 1)", wide.leastWidth(0, 1), Check.NONE);
        Check.due("leastWidth(0, 2)", wide.leastWidth(0, 2), 600);
        wide.hide(2);
        Check.due("leastWidth(0, 1)", wide.leastWidth(0, 1), 800);
    }

    private static void leastWidthForRests() {
        Check.due("an item that shrinks to 0", Check.with("400").leastWidth(1, 0), 20);
        Check.due("one that does not", Check.with("150shrink0").leastWidth(1, 0), 150);
        Check.due("one with margins", Check.with("150min80margin7").leastWidth(1, 0), 94);
        FlexRows rows = Check.with("400shrink0", "400shrink0margin20", "400shrink0");
        Check.due("each in its line", rows.leastWidth(1, 0), 440);
        rows.set(3, 0);
        Check.due("all in one line", rows.leastWidth(1, 0), Check.NONE);
        rows.hide(0);
        Check.due("two in one line", rows.leastWidth(1, 0), 840);
        rows.hide(1);
        rows.hide(2);
        Check.due("none in no line", rows.leastWidth(1, 0), 20);
        FlexRows last = Check.with("400shrink0", "400shrink0", "199shrink0");
        last.set(3, 0);
        Check.due("the greatest width", last.leastWidth(1, 0), 999);
        last.change(2, 3, 200);
        Check.due("one more than it", last.leastWidth(1, 0), Check.NONE);
    }

    /** The least width may be above that of the box, which stays as it is. */
    private static void leastWidthOfANarrowBox() {
        FlexRows rows = Check.with("30shrink0", "30shrink0");
        rows.set(0, 25);
        Check.due("leastWidth(1, 0)", rows.leastWidth(1, 0), 30);
        Check.due("leastWidth(0, 1)", rows.leastWidth(0, 1), 60);
        Check.due("the width stays", rows.count(7), 25);
        Check.lineTells(rows, 4, -5, -5);
    }

    private static void tellingChangesNothing() {
        FlexRows rows = Check.with("100grow1", "120grow2", "200shrink0", "70rank-3");
        rows.hide(1);
        long digest = rows.digest();
        int[] sizes = {230, -1, 200, 70};
        rows.set(3, 0);
        rows.undo();
        for (int item = 0; item < sizes.length; item++) {
            rows.item(item, 11);
            rows.lies(item, 3);
        }
        rows.leastWidth(0, 1);
        rows.leastWidth(1, 0);
        rows.at(3, 3);
        Check.due("lies(0, 3) after leastWidth()", rows.lies(0, 3), sizes[0]);
        Check.due("lies(3, 2) after leastWidth()", rows.lies(3, 2), 0);
        Check.due("digest()", rows.digest(), digest);
        Check.due("digest() again", rows.digest(), digest);
    }

    private static void digests() {
        FlexRows rows = new FlexRows();
        Check.due("digest() of a new object", rows.digest(), digestOf(rows, ""));
        String text = "100grow1shrink2min3max300margin4rank-5height6depth7across3";
        rows = Check.with("60", text, "200grow3", "99margin9");
        Check.due("digest() of items", rows.digest(), digestOf(rows, "99margin9"));
        rows.hide(2);
        Check.due("digest() with a hidden item", rows.digest(), digestOf(rows, "99margin9"));
        // An object is used for 512 calls, of which the tellings above have taken many.
        rows = Check.with("60", text, "200grow3", "99margin9");
        rows.hide(2);
        Check.type(rows, "~ \0\177");
        Check.due("digest() with a text", rows.digest(), digestOf(rows, "~ \0\177"));
        rows.set(3, 0);
        rows.set(0, 50);
        Check.due("digest() of a narrow box", rows.digest(), digestOf(rows, "~ \0\177"));
    }

    /** The document's words, in the calls of the face. */
    private static long digestOf(FlexRows rows, String text) {
        long hash = 148;
        for (int what = 0; what <= 13; what++) {
            hash = 31 * hash + rows.count(what);
        }
        for (int item = 0; item < rows.count(0); item++) {
            for (int what = 0; what <= 11; what++) {
                hash = 31 * hash + rows.item(item, what);
            }
            for (int what = 0; what <= 7 && rows.item(item, 10) == 0; what++) {
                hash = 31 * hash + rows.lies(item, what);
            }
        }
        for (int line = 0; line < rows.count(2); line++) {
            for (int what = 0; what <= 7; what++) {
                hash = 31 * hash + rows.line(line, what);
            }
        }
        for (int place = 0; rows.ordered(place) != Check.NONE; place++) {
            hash = 31 * hash + rows.ordered(place);
        }
        for (char letter : text.toCharArray()) {
            hash = 31 * hash + letter;
        }
        return hash;
    }
}
