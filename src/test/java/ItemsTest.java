/** Promises 4 to 10: the changes, and undo(). */
public final class ItemsTest {
    private static final int LEAST_INT = Integer.MIN_VALUE;
    private static final int GREATEST_INT = Integer.MAX_VALUE;
    private static final int[] LOWEST = {0, 0, 0, 0, 0, 0, -9, 1, 0, 0};
    private static final int[] HIGHEST = {400, 9, 9, 400, 400, 20, 9, 100, 50, 4};
    private static final int[] LOWEST_NUMBER = {20, 0, 0, 0, 0, 0, 0};
    private static final int[] HIGHEST_NUMBER = {999, 40, 40, 1, 5, 3, 1};

    public static void main(String[] args) {
        insert();
        insertErrors();
        remove();
        move();
        change();
        hide();
        set();
        undo();
        historyOfEight();
        errorsChangeNothing();
        Check.finish();
    }

    private static void insert() {
        FlexRows rows = new FlexRows();
        Check.due("insert(0)", Check.insert(rows, 0, "10"), 1);
        Check.due("insert(1)", Check.insert(rows, 1, "20"), 2);
        Check.due("insert(0)", Check.insert(rows, 0, "30"), 3);
        Check.due("insert(1)", Check.insert(rows, 1, "40"), 4);
        bases(rows, 30, 40, 10, 20);
        Check.due("the text stays", rows.insert(4), 5);
        bases(rows, 30, 40, 10, 20, 40);
        rows.hide(1);
        Check.insert(rows, 1, "50");
        Check.due("a new item is not hidden", rows.item(1, 10), 0);
        Check.due("the hidden one moves up", rows.item(2, 10), 1);
        Check.due("states", rows.count(5), 7);

        FlexRows again = Check.with("10", "20");
        again.hide(1);
        again.remove(1);
        Check.insert(again, 1, "30");
        Check.due("a new item in place of a hidden one", again.item(1, 10), 0);
    }

    private static void insertErrors() {
        FlexRows rows = new FlexRows();
        Check.type(rows, "?");
        Check.due("insert(-1)", rows.insert(-1), Check.BAD);
        Check.due("insert(1)", rows.insert(1), Check.BAD);
        Check.due("insert(greatest int)", rows.insert(GREATEST_INT), Check.BAD);
        Check.due("insert(least int)", rows.insert(LEAST_INT), Check.BAD);
        Check.due("insert(0) of a fault", rows.insert(0), -2000);
        Check.type(rows, "5");
        for (int k = 0; k < 16; k++) {
            Check.due("insert(" + k + ")", rows.insert(k), k + 1);
        }
        Check.due("insert(16)", rows.insert(16), Check.FULL);
        Check.due("insert(0)", rows.insert(0), Check.FULL);
        Check.due("insert(17)", rows.insert(17), Check.BAD);
        Check.type(rows, "5x");
        Check.due("a fault comes before FULL", rows.insert(16), -2001);
        Check.due("items", rows.count(0), 16);
        Check.due("states", rows.count(5), 8);
    }

    private static void remove() {
        FlexRows rows = Check.with("10", "20", "30", "40");
        Check.due("remove(4)", rows.remove(4), Check.BAD);
        Check.due("remove(-1)", rows.remove(-1), Check.BAD);
        Check.due("remove(greatest int)", rows.remove(GREATEST_INT), Check.BAD);
        Check.due("remove(1)", rows.remove(1), 3);
        bases(rows, 10, 30, 40);
        Check.due("remove(2)", rows.remove(2), 2);
        bases(rows, 10, 30);
        rows.hide(0);
        Check.due("remove(0)", rows.remove(0), 1);
        bases(rows, 30);
        Check.due("hidden ones", rows.count(1), 0);
        Check.due("remove(0)", rows.remove(0), 0);
        Check.due("remove(0) of none", rows.remove(0), Check.BAD);
        Check.due("states", rows.count(5), 8);
    }

    private static void move() {
        FlexRows rows = Check.with("10", "20", "30", "40");
        Check.due("move(0, 3)", rows.move(0, 3), 3);
        bases(rows, 20, 30, 40, 10);
        Check.due("move(2, 0)", rows.move(2, 0), 0);
        bases(rows, 40, 20, 30, 10);
        Check.due("move(1, 1)", rows.move(1, 1), 1);
        bases(rows, 40, 20, 30, 10);
        Check.due("a move to its own number is a change", rows.count(5), 7);
        Check.due("move(0, 4)", rows.move(0, 4), Check.BAD);
        Check.due("move(4, 0)", rows.move(4, 0), Check.BAD);
        Check.due("move(-1, 0)", rows.move(-1, 0), Check.BAD);
        Check.due("move(0, -1)", rows.move(0, -1), Check.BAD);
        Check.due("move(0, greatest int)", rows.move(0, GREATEST_INT), Check.BAD);
        Check.due("states", rows.count(5), 7);

        FlexRows ranked = Check.with("10rank2", "20rank1", "30", "40rank1");
        Check.due("move of a rank", ranked.move(0, 1), 3);
        Check.due("move in its rank", ranked.move(3, 0), 1);
        ranked.hide(0);
        Check.due("move of a hidden one", ranked.move(0, 2), Check.NONE);
        Check.due("it is hidden still", ranked.item(2, 10), 1);
        Check.due("it is a change", ranked.count(5), 8);
        Check.due("a place counts those that are not hidden", ranked.move(1, 3), 2);
    }

    private static void change() {
        FlexRows rows = Check.with("10", "20");
        int[] before = {20, 0, 1, 0, 400, 0, 0, 10, 0, 4};
        for (int what = 0; what < 10; what++) {
            String call = "change(1, " + what + ", ..)";
            Check.due(call + " too low", rows.change(1, what, LOWEST[what] - 1), Check.BAD);
            Check.due(call + " too high", rows.change(1, what, HIGHEST[what] + 1), Check.BAD);
            Check.due(call + " least", rows.change(1, what, LEAST_INT), Check.BAD);
            Check.due(call + " greatest", rows.change(1, what, GREATEST_INT), Check.BAD);
            Check.due(call, rows.change(1, what, LOWEST[what]), before[what]);
            Check.due(call, rows.change(1, what, HIGHEST[what]), LOWEST[what]);
            Check.due("item(1, " + what + ")", rows.item(1, what), HIGHEST[what]);
            Check.due("the other one", rows.item(0, what), what == 0 ? 10 : before[what]);
        }
        Check.due("change(1, 10, 1)", rows.change(1, 10, 1), Check.BAD);
        Check.due("change(1, -1, 1)", rows.change(1, -1, 1), Check.BAD);
        Check.due("change(2, 0, 1)", rows.change(2, 0, 1), Check.BAD);
        Check.due("change(-1, 0, 1)", rows.change(-1, 0, 1), Check.BAD);
        Check.due("change(greatest, greatest, 0)", rows.change(GREATEST_INT, GREATEST_INT, 0), Check.BAD);

        FlexRows one = Check.with("10");
        Check.due("change to the same value", one.change(0, 0, 10), 10);
        Check.due("is a change", one.count(5), 2);
    }

    private static void hide() {
        FlexRows rows = Check.with("10", "20", "30");
        Check.due("hide(1)", rows.hide(1), 1);
        Check.due("item(1, 10)", rows.item(1, 10), 1);
        Check.due("count(1)", rows.count(1), 1);
        Check.due("ordered(1)", rows.ordered(1), 2);
        Check.due("ordered(2)", rows.ordered(2), Check.NONE);
        Check.due("lies(2, 2)", rows.lies(2, 2), 10);
        Check.due("hide(1)", rows.hide(1), 0);
        Check.due("item(1, 10)", rows.item(1, 10), 0);
        Check.due("ordered(1)", rows.ordered(1), 1);
        Check.due("states", rows.count(5), 5);
        Check.due("hide(3)", rows.hide(3), Check.BAD);
        Check.due("hide(-1)", rows.hide(-1), Check.BAD);
        Check.due("states", rows.count(5), 5);
    }

    private static void set() {
        int[] before = {300, 0, 0, 1, 0, 0, 0};
        for (int what = 0; what < 7; what++) {
            FlexRows rows = new FlexRows();
            String call = "set(" + what + ", ..)";
            Check.due(call + " too low", rows.set(what, LOWEST_NUMBER[what] - 1), Check.BAD);
            Check.due(call + " too high", rows.set(what, HIGHEST_NUMBER[what] + 1), Check.BAD);
            Check.due(call + " least", rows.set(what, LEAST_INT), Check.BAD);
            Check.due(call + " greatest", rows.set(what, GREATEST_INT), Check.BAD);
            Check.due(call, rows.set(what, HIGHEST_NUMBER[what]), before[what]);
            Check.due(call, rows.set(what, LOWEST_NUMBER[what]), HIGHEST_NUMBER[what]);
            Check.due("count(" + (7 + what) + ")", rows.count(7 + what), LOWEST_NUMBER[what]);
            Check.due("states", rows.count(5), 2);
        }
        FlexRows rows = new FlexRows();
        Check.due("set(7, 0)", rows.set(7, 0), Check.BAD);
        Check.due("set(-1, 0)", rows.set(-1, 0), Check.BAD);
        Check.due("set(least int, 0)", rows.set(LEAST_INT, 0), Check.BAD);
        Check.due("states", rows.count(5), 0);
    }

    private static void undo() {
        FlexRows rows = Check.with("10", "20");
        long digest = rows.digest();
        rows.move(0, 1);
        bases(rows, 20, 10);
        Check.due("undo() of move()", rows.undo(), 2);
        Check.due("digest()", rows.digest(), digest);
        rows.remove(0);
        Check.due("undo() of remove()", rows.undo(), 2);
        Check.due("digest()", rows.digest(), digest);
        rows.insert(1);
        Check.due("undo() of insert()", rows.undo(), 2);
        Check.due("digest()", rows.digest(), digest);
        rows.change(0, 7, 50);
        Check.due("undo() of change()", rows.undo(), 2);
        Check.due("digest()", rows.digest(), digest);
        rows.hide(0);
        Check.due("undo() of hide()", rows.undo(), 2);
        Check.due("digest()", rows.digest(), digest);
        rows.set(0, 25);
        Check.due("undo() of set()", rows.undo(), 2);
        Check.due("digest()", rows.digest(), digest);

        undoOfAFullBox();

        rows.type('7');
        Check.due("undo()", rows.undo(), 1);
        Check.due("the text stays", rows.count(6), 3);
        bases(rows, 10);
        Check.due("undo()", rows.undo(), 0);
        Check.due("items", rows.count(0), 0);
        Check.due("undo() of none", rows.undo(), Check.STATE);
        Check.due("undo() of none again", rows.undo(), Check.STATE);
    }

    /** Each property of each item, and each number of the box, comes back. */
    private static void undoOfAFullBox() {
        FlexRows rows = new FlexRows();
        for (int item = 0; item < 16; item++) {
            Check.insert(rows, item, item + "grow" + item % 9 + "min" + item + "height9across" + item % 5);
        }
        int[] box = {100, 1, 2, 0, 3, 2, 1};
        for (int what = 0; what < box.length; what++) {
            rows.set(what, box[what]);
        }
        rows.hide(15);
        long digest = rows.digest();
        for (int change = 0; change < 8; change++) {
            rows.remove(0);
        }
        for (int change = 0; change < 8; change++) {
            rows.undo();
        }
        Check.due("states", rows.count(5), 0);
        for (int change = 0; change < 8; change++) {
            rows.set(0, 100);
        }
        Check.due("digest()", rows.digest(), digest);
    }

    private static void historyOfEight() {
        FlexRows rows = new FlexRows();
        for (int width = 21; width <= 30; width++) {
            rows.set(0, width);
            Check.due("states at " + width, rows.count(5), Math.min(width - 20, 8));
        }
        for (int left = 7; left >= 0; left--) {
            Check.due("undo()", rows.undo(), left);
            Check.due("width", rows.count(7), left + 22);
        }
        Check.due("undo() of none", rows.undo(), Check.STATE);
        Check.due("width", rows.count(7), 22);
        rows.set(0, 50);
        Check.due("states", rows.count(5), 1);
        Check.due("undo()", rows.undo(), 0);
        Check.due("width", rows.count(7), 22);
    }

    private static void errorsChangeNothing() {
        FlexRows rows = Check.with("10 grow 1", "20 shrink 2", "30 rank -1");
        rows.hide(1);
        rows.type('?');
        long digest = rows.digest();
        rows.type(128);
        rows.insert(4);
        rows.insert(3);
        rows.remove(3);
        rows.move(0, 3);
        rows.move(3, 0);
        rows.change(0, 0, 401);
        rows.change(0, 11, 1);
        rows.change(3, 0, 1);
        rows.hide(3);
        rows.set(0, 1000);
        rows.set(7, 0);
        rows.item(0, 12);
        rows.lies(1, 0);
        rows.ordered(-1);
        rows.line(-1, 0);
        rows.at(0, -1);
        rows.leastWidth(0, 17);
        rows.count(-1);
        Check.due("digest()", rows.digest(), digest);
    }

    private static void bases(FlexRows rows, int... wanted) {
        Check.due("count(0)", rows.count(0), wanted.length);
        for (int item = 0; item < wanted.length; item++) {
            Check.due("item(" + item + ", 0)", rows.item(item, 0), wanted[item]);
        }
    }
}
