import java.math.BigInteger;
import java.util.Arrays;
import java.util.function.IntUnaryOperator;

/** 'Changes', and each promise: the ranges of its arguments, and what it returns, on both sides of each boundary. */
public final class CallsEdgeTest {
    private static final int LEAST_INT = Integer.MIN_VALUE;
    private static final int GREATEST_INT = Integer.MAX_VALUE;

    public static void main(String[] args) {
        whichCallsAreChanges();
        changesOfNothingAreChanges();
        aHistoryOfEight();
        undoRemovesTheLatest();
        undoRestoresEachChange();
        theTextIsNoPartOfTheState();
        errorsDropNoState();
        tellingDropsNoState();
        fiveHundredAndTwelveCalls();

        aNewObject();
        type();
        clear();
        insert();
        insertOfFaults();
        remove();
        move();
        moveOfAHiddenItem();
        change();
        hide();
        set();
        undo();
        item();
        lies();
        liesOfAHiddenItem();
        ordered();
        line();
        at();
        atTheEdgesOfAnItem();
        atTheEndsOfItsRange();
        leastWidthArguments();
        leastWidthOfLines();
        leastWidthOfRests();
        leastWidthFrom20To999();
        leastWidthChangesNothing();
        count();
        theGreatestEnd();
        digest();
        digestOverflows();
        Check.finish();
    }

    /** The call refuses what is just outside of its range, and far outside, but nothing from low to high. */
    private static void range(String call, FlexRows rows, int low, int high, IntUnaryOperator made) {
        for (int value : new int[] {low - 1, high + 1, LEAST_INT, GREATEST_INT}) {
            Check.refused(rows, call + " of " + value, Check.BAD, () -> made.applyAsInt(value));
        }
        for (int value : new int[] {low, (low + high) / 2, high}) {
            Check.holds(call + " of " + value + " is not refused", made.applyAsInt(value) != Check.BAD);
        }
    }

    // ---- Changes

    /** 'the calls of insert(), remove(), move(), change(), hide() and set() that return no error.' */
    private static void whichCallsAreChanges() {
        FlexRows rows = new FlexRows();
        Check.insert(rows, 0, "10");
        Check.due("states after insert()", rows.count(5), 1);
        rows.insert(1);
        Check.due("states after insert()", rows.count(5), 2);
        rows.remove(1);
        Check.due("states after remove()", rows.count(5), 3);
        rows.move(0, 0);
        Check.due("states after move()", rows.count(5), 4);
        rows.change(0, 1, 1);
        Check.due("states after change()", rows.count(5), 5);
        rows.hide(0);
        Check.due("states after hide()", rows.count(5), 6);
        rows.set(0, 100);
        Check.due("states after set()", rows.count(5), 7);
        rows.type('1');
        rows.clear();
        rows.item(0, 0);
        rows.lies(0, 0);
        rows.ordered(0);
        rows.line(0, 0);
        rows.at(0, 0);
        rows.leastWidth(1, 0);
        rows.digest();
        Check.due("states after the other calls", rows.count(5), 7);
        Check.due("undo()", rows.undo(), 6);
        Check.due("states after undo()", rows.count(5), 6);
    }

    /** A call that returns no error is a change, also if nothing is another one then. */
    private static void changesOfNothingAreChanges() {
        FlexRows rows = Check.with("10", "20");
        Check.due("change(0, 0, 10)", rows.change(0, 0, 10), 10);
        Check.due("states", rows.count(5), 3);
        Check.due("set(0, 300)", rows.set(0, 300), 300);
        Check.due("states", rows.count(5), 4);
        Check.due("move(1, 1)", rows.move(1, 1), 1);
        Check.due("states", rows.count(5), 5);
        rows.hide(1);
        Check.due("move(1, 1) of a hidden item", rows.move(1, 1), Check.NONE);
        Check.due("states", rows.count(5), 7);
    }

    /** 'A history of at most 8 states is kept: [..] when one more is recorded, the oldest one is dropped.' */
    private static void aHistoryOfEight() {
        for (int changes = 7; changes <= 20; changes++) {
            FlexRows rows = new FlexRows();
            for (int k = 1; k <= changes; k++) {
                rows.set(0, 20 + k);
                Check.due("states after " + k, rows.count(5), Math.min(k, 8));
            }
            for (int k = 1; k <= Math.min(changes, 8); k++) {
                Check.due("undo() " + k + " of " + changes, rows.undo(), Math.min(changes, 8) - k);
                Check.due("the width", rows.count(7), changes == k ? 300 : 20 + changes - k);
            }
            Check.refused(rows, "one more undo() of " + changes, Check.STATE, rows::undo);
        }
    }

    /** 'undo() removes the latest one and restores it': changes behind it are recorded in its place. */
    private static void undoRemovesTheLatest() {
        FlexRows rows = new FlexRows();
        for (int k = 1; k <= 9; k++) {
            rows.set(0, 20 + k);
        }
        Check.due("undo()", rows.undo(), 7);
        rows.set(0, 50);
        Check.due("states", rows.count(5), 8);
        rows.set(0, 51);
        Check.due("states", rows.count(5), 8);
        int[] widths = {50, 28, 27, 26, 25, 24, 23, 22};
        for (int k = 0; k < 8; k++) {
            Check.due("undo()", rows.undo(), 7 - k);
            Check.due("the width", rows.count(7), widths[k]);
        }
        Check.due("undo()", rows.undo(), Check.STATE);
    }

    /** 'each change records the state before it': all properties of all items, hidden ones too, and the box. */
    private static void undoRestoresEachChange() {
        FlexRows rows = new FlexRows();
        Check.type(rows, "1grow1shrink2min3max4margin5rank6height7depth8across0");
        for (int item = 0; item < 16; item++) {
            rows.insert(item);
            rows.change(item, 0, item);
        }
        for (int change = 0; change < 4; change++) {
            rows.hide(4 * change);
        }
        for (int what = 0; what <= 9; what++) {
            long digest = rows.digest();
            rows.change(15, what, what == 9 ? 1 : 9);
            restores(rows, digest, "change(15, " + what + ", ..)");
        }
        int[] box = {21, 1, 1, 0, 1, 1, 1};
        for (int what = 0; what <= 6; what++) {
            long digest = rows.digest();
            rows.set(what, box[what]);
            restores(rows, digest, "set(" + what + ", ..)");
        }
        for (int item : new int[] {0, 1, 15}) {
            long digest = rows.digest();
            rows.remove(item);
            restores(rows, digest, "remove(" + item + ")");
            rows.hide(item);
            restores(rows, digest, "hide(" + item + ")");
            rows.move(item, 15 - item);
            restores(rows, digest, "move(" + item + ", " + (15 - item) + ")");
        }
    }

    /** The digest tells how many states there are: the history is full ahead of the change, and is filled again. */
    private static void restores(FlexRows rows, long digest, String call) {
        Check.due("states after " + call, rows.count(5), 8);
        Check.due("undo() of " + call, rows.undo(), 7);
        rows.set(0, rows.count(7));
        Check.due("digest() after undo() of " + call, rows.digest(), digest);
    }

    /** 'The text does not belong to the state.' */
    private static void theTextIsNoPartOfTheState() {
        FlexRows rows = Check.with("10");
        rows.set(0, 100);
        rows.clear();
        rows.type('7');
        rows.type('8');
        rows.type('9');
        Check.due("undo()", rows.undo(), 1);
        Check.due("bytes", rows.count(6), 3);
        Check.due("undo()", rows.undo(), 0);
        Check.due("bytes", rows.count(6), 3);
        rows.clear();
        rows.type('5');
        Check.due("insert(0)", rows.insert(0), 1);
        Check.due("undo() of insert()", rows.undo(), 0);
        Check.due("bytes", rows.count(6), 1);
        Check.due("insert(0) of the text that stayed", rows.insert(0), 1);
        Check.due("item(0, 0)", rows.item(0, 0), 5);
    }

    /** 'A call that returns an error changes nothing': nor does it drop a state of a history that is full. */
    private static void errorsDropNoState() {
        String[] texts = new String[16];
        Arrays.fill(texts, "7");
        FlexRows rows = fullHistory(Check.with(texts));
        Check.due("insert(0) into 16", rows.insert(0), Check.FULL);
        Check.due("insert(17)", rows.insert(17), Check.BAD);
        Check.due("remove(16)", rows.remove(16), Check.BAD);
        Check.due("move(0, 16)", rows.move(0, 16), Check.BAD);
        Check.due("move(16, 0)", rows.move(16, 0), Check.BAD);
        Check.due("change(0, 0, 401)", rows.change(0, 0, 401), Check.BAD);
        Check.due("change(0, 10, 0)", rows.change(0, 10, 0), Check.BAD);
        Check.due("change(16, 0, 0)", rows.change(16, 0, 0), Check.BAD);
        Check.due("hide(16)", rows.hide(16), Check.BAD);
        Check.due("set(0, 19)", rows.set(0, 19), Check.BAD);
        Check.due("set(7, 0)", rows.set(7, 0), Check.BAD);
        rows.type('?');
        Check.due("insert(0) of a fault", rows.insert(0), -2001);
        eightWidths(rows);
    }

    /** 'what is told; nothing changes', nor is a text a change: the history stays as full as it was. */
    private static void tellingDropsNoState() {
        FlexRows rows = fullHistory(Check.with("10", "20", "400"));
        rows.item(0, 11);
        rows.lies(1, 2);
        rows.ordered(2);
        rows.line(0, 4);
        rows.at(5, 5);
        rows.leastWidth(0, 1);
        rows.leastWidth(1, 0);
        rows.count(5);
        rows.digest();
        rows.clear();
        rows.type('7');
        eightWidths(rows);
    }

    /** Nine changes: the history holds the widths from 100 to 107, and the box has 108. */
    private static FlexRows fullHistory(FlexRows rows) {
        for (int width = 100; width <= 108; width++) {
            rows.set(0, width);
        }
        return rows;
    }

    private static void eightWidths(FlexRows rows) {
        Check.due("the width", rows.count(7), 108);
        for (int left = 7; left >= 0; left--) {
            Check.due("undo()", rows.undo(), left);
            Check.due("the width", rows.count(7), 100 + left);
        }
        Check.due("undo() of none", rows.undo(), Check.STATE);
    }

    /** 'An object is used for at most 512 calls': the last ones are answered as the first ones are. */
    private static void fiveHundredAndTwelveCalls() {
        FlexRows rows = new FlexRows();
        Check.due("call 1", rows.type('9'), 1);
        Check.due("call 2", rows.insert(0), 1);
        for (int call = 3; call < 511; call += 2) {
            Check.due("call " + call, rows.change(0, 0, call % 400), call == 3 ? 9 : (call - 2) % 400);
            Check.due("call " + (call + 1), rows.lies(0, 3), Math.min(call % 400, 300));
        }
        Check.due("call 511", rows.undo(), 7);
        Check.due("call 512", rows.item(0, 0), 507 % 400);
    }

    // ---- Promises 1 to 3

    /** 'Creates a box without items, with an empty text', and objects do not share anything. */
    private static void aNewObject() {
        Check.with("10", "20").set(0, 50);
        FlexRows rows = new FlexRows();
        int[] counts = {0, 0, 0, 0, Check.NONE, 0, 0, 300, 0, 0, 1, 0, 0, 0};
        for (int what = 0; what < counts.length; what++) {
            Check.due("count(" + what + ") of a new object", rows.count(what), counts[what]);
        }
        Check.due("insert(0) of the empty text", rows.insert(0), -2000);
        Check.due("remove(0)", rows.remove(0), Check.BAD);
        Check.due("move(0, 0)", rows.move(0, 0), Check.BAD);
        Check.due("change(0, 0, 0)", rows.change(0, 0, 0), Check.BAD);
        Check.due("hide(0)", rows.hide(0), Check.BAD);
        Check.due("undo()", rows.undo(), Check.STATE);
        Check.due("item(0, 0)", rows.item(0, 0), Check.BAD);
        Check.due("lies(0, 0)", rows.lies(0, 0), Check.BAD);
        Check.due("ordered(0)", rows.ordered(0), Check.NONE);
        Check.due("line(0, 0)", rows.line(0, 0), Check.NONE);
        Check.due("at(0, 0)", rows.at(0, 0), Check.NONE);
        Check.due("leastWidth(0, 1)", rows.leastWidth(0, 1), 20);
        Check.due("leastWidth(1, 0)", rows.leastWidth(1, 0), 20);
        Check.due("clear()", rows.clear(), 0);
    }

    /** 'letter: 0 to 127. Returns the length of the text then; BAD; FULL if it has 80 bytes.' */
    private static void type() {
        FlexRows rows = new FlexRows();
        Check.refused(rows, "type(-1)", Check.BAD, () -> rows.type(-1));
        Check.due("type(0)", rows.type(0), 1);
        Check.due("type(127)", rows.type(127), 2);
        Check.refused(rows, "type(128)", Check.BAD, () -> rows.type(128));
        Check.refused(rows, "type(48 + 256)", Check.BAD, () -> rows.type(48 + 256));
        Check.refused(rows, "type(least int)", Check.BAD, () -> rows.type(LEAST_INT));
        Check.refused(rows, "type(greatest int)", Check.BAD, () -> rows.type(GREATEST_INT));
        for (int length = 3; length <= 80; length++) {
            Check.due("type(" + length + ")", rows.type(length), length);
        }
        Check.refused(rows, "type(0) into 80 bytes", Check.FULL, () -> rows.type(0));
        Check.refused(rows, "type(127) into 80 bytes", Check.FULL, () -> rows.type(127));
    }

    /** 'Empties the text. Returns the length that it had': 0, 1, and 80. */
    private static void clear() {
        FlexRows rows = new FlexRows();
        for (int length : new int[] {0, 1, 80, 0}) {
            Check.type(rows, "7".repeat(length));
            Check.due("clear() of " + length, rows.clear(), length);
            Check.due("bytes", rows.count(6), 0);
        }
        Check.due("insert(0) of no text", rows.insert(0), -2000);
        Check.due("states", rows.count(5), 0);
    }

    // ---- Promises 4 to 10

    /** 'the number that it gets, 0 to the number of items'; 'The text stays'; 'FULL if there are 16 items.' */
    private static void insert() {
        FlexRows rows = new FlexRows();
        Check.type(rows, "7");
        for (int items = 0; items < 16; items++) {
            int behind = items + 1;
            Check.refused(rows, "insert(-1)", Check.BAD, () -> rows.insert(-1));
            Check.refused(rows, "insert(" + behind + ")", Check.BAD, () -> rows.insert(behind));
            Check.due("insert(" + items + ")", rows.insert(items), items + 1);
            Check.due("the text stays", rows.count(6), 1);
        }
        Check.refused(rows, "insert(-1) into 16", Check.BAD, () -> rows.insert(-1));
        Check.refused(rows, "insert(0) into 16", Check.FULL, () -> rows.insert(0));
        Check.refused(rows, "insert(16) into 16", Check.FULL, () -> rows.insert(16));
        Check.refused(rows, "insert(17) into 16", Check.BAD, () -> rows.insert(17));
        Check.refused(rows, "insert(least int) into 16", Check.BAD, () -> rows.insert(LEAST_INT));
        Check.refused(rows, "insert(greatest int) into 16", Check.BAD, () -> rows.insert(GREATEST_INT));

        FlexRows first = Check.with("10", "20", "30");
        Check.insert(first, 0, "40");
        bases(first, 40, 10, 20, 30);
        Check.insert(first, 3, "50");
        bases(first, 40, 10, 20, 50, 30);
        Check.insert(first, 5, "60");
        bases(first, 40, 10, 20, 50, 30, 60);
    }

    /** '-2000 - p if the text has the fault p', whichever of the numbers it is to get. */
    private static void insertOfFaults() {
        FlexRows rows = Check.with("10");
        String[] texts = {"", "x", "5x", "5 x", "5 min", "5 min 401", "1234"};
        int[] faults = {0, 0, 1, 2, 5, 6, 3};
        for (int k = 0; k < texts.length; k++) {
            Check.type(rows, texts[k]);
            int want = -2000 - faults[k];
            Check.refused(rows, "insert(0) of \"" + texts[k] + "\"", want, () -> rows.insert(0));
            Check.refused(rows, "insert(1) of \"" + texts[k] + "\"", want, () -> rows.insert(1));
            Check.refused(rows, "insert(2) of \"" + texts[k] + "\"", Check.BAD, () -> rows.insert(2));
            Check.refused(rows, "insert(-1) of \"" + texts[k] + "\"", Check.BAD, () -> rows.insert(-1));
        }
    }

    /** 'Returns the number of items that are left; BAD.' */
    private static void remove() {
        FlexRows rows = Check.with("10", "20", "30", "40");
        Check.refused(rows, "remove(-1)", Check.BAD, () -> rows.remove(-1));
        Check.refused(rows, "remove(4)", Check.BAD, () -> rows.remove(4));
        Check.due("remove(3)", rows.remove(3), 3);
        Check.refused(rows, "remove(3)", Check.BAD, () -> rows.remove(3));
        bases(rows, 10, 20, 30);
        Check.due("remove(0)", rows.remove(0), 2);
        bases(rows, 20, 30);
        Check.due("remove(1)", rows.remove(1), 1);
        Check.due("remove(0)", rows.remove(0), 0);
        Check.refused(rows, "remove(0) of none", Check.BAD, () -> rows.remove(0));
        Check.refused(rows, "remove(least int)", Check.BAD, () -> rows.remove(LEAST_INT));
        Check.refused(rows, "remove(greatest int)", Check.BAD, () -> rows.remove(GREATEST_INT));
        FlexRows hidden = Check.with("10", "20", "30");
        hidden.hide(1);
        Check.due("remove(1) of a hidden item", hidden.remove(1), 2);
        Check.due("hidden items", hidden.count(1), 0);
        bases(hidden, 10, 30);
    }

    /** 'to: the number that it gets, 0 to the number of items - 1. Returns the place of the item in the order then.' */
    private static void move() {
        FlexRows rows = Check.with("10", "20", "30", "40");
        for (int item : new int[] {-1, 4, LEAST_INT, GREATEST_INT}) {
            Check.refused(rows, "move(" + item + ", 0)", Check.BAD, () -> rows.move(item, 0));
            Check.refused(rows, "move(0, " + item + ")", Check.BAD, () -> rows.move(0, item));
        }
        Check.due("move(0, 3)", rows.move(0, 3), 3);
        bases(rows, 20, 30, 40, 10);
        Check.due("move(3, 0)", rows.move(3, 0), 0);
        bases(rows, 10, 20, 30, 40);
        Check.due("move(1, 2)", rows.move(1, 2), 2);
        bases(rows, 10, 30, 20, 40);
        Check.due("move(2, 2)", rows.move(2, 2), 2);
        bases(rows, 10, 30, 20, 40);
        rows.change(0, 6, 9);
        Check.due("move(0, 1) of the greatest rank", rows.move(0, 1), 3);
        Check.due("move(3, 0) of another rank", rows.move(3, 0), 0);
        rows.hide(1);
        Check.due("move(3, 3) behind a hidden item", rows.move(3, 3), 1);
    }

    /** '(NONE if it is hidden)': it gets the number all the same. */
    private static void moveOfAHiddenItem() {
        FlexRows rows = Check.with("10", "20", "30");
        rows.hide(0);
        Check.due("move(0, 2)", rows.move(0, 2), Check.NONE);
        bases(rows, 20, 30, 10);
        Check.due("item(2, 10)", rows.item(2, 10), 1);
        Check.refused(rows, "move(2, 3)", Check.BAD, () -> rows.move(2, 3));
        rows.hide(2);
        Check.due("move(2, 0)", rows.move(2, 0), 0);
    }

    /** 'what: the property, 0 to 9; value: the new value, in its range. Returns the value before; BAD.' */
    private static void change() {
        FlexRows rows = Check.with("1", "1");
        for (int item : new int[] {-1, 2, LEAST_INT, GREATEST_INT}) {
            Check.refused(rows, "change(" + item + ", 0, 1)", Check.BAD, () -> rows.change(item, 0, 1));
        }
        range("change(1, .., 1)", rows, 0, 9, what -> rows.change(1, what, 1));
        int[] lowest = {0, 0, 0, 0, 0, 0, -9, 1, 0, 0};
        int[] highest = {400, 9, 9, 400, 400, 20, 9, 100, 50, 4};
        for (int what = 0; what <= 9; what++) {
            int property = what;
            range("change(0, " + what + ", ..)", rows, lowest[what], highest[what],
                    value -> rows.change(0, property, value));
            Check.due("change(0, " + what + ", 1)", rows.change(0, what, 1), highest[what]);
        }
        Check.due("change(0, 6, -9)", rows.change(0, 6, -9), 1);
        Check.due("change(0, 6, -8)", rows.change(0, 6, -8), -9);
        rows.hide(0);
        Check.due("change(0, 6, 0) of a hidden item", rows.change(0, 6, 0), -8);
        Check.due("item(0, 6)", rows.item(0, 6), 0);
        Check.due("item(0, 10)", rows.item(0, 10), 1);
    }

    /** 'Returns 1 if it is hidden then, otherwise 0; BAD.' */
    private static void hide() {
        FlexRows rows = Check.with("10", "20", "30");
        for (int item : new int[] {-1, 3, LEAST_INT, GREATEST_INT}) {
            Check.refused(rows, "hide(" + item + ")", Check.BAD, () -> rows.hide(item));
        }
        for (int item = 0; item < 3; item++) {
            Check.due("hide(" + item + ")", rows.hide(item), 1);
            Check.due("hidden items", rows.count(1), item + 1);
        }
        Check.due("ordered(0)", rows.ordered(0), Check.NONE);
        for (int item = 0; item < 3; item++) {
            Check.due("hide(" + item + ")", rows.hide(item), 0);
            Check.due("hidden items", rows.count(1), 2 - item);
        }
    }

    /** 'what: the number, 0 to 6; value: the new value, in its range. Returns the value before; BAD.' */
    private static void set() {
        FlexRows rows = Check.with("10", "20");
        int[] first = {300, 0, 0, 1, 0, 0, 0};
        int[] lowest = {20, 0, 0, 0, 0, 0, 0};
        int[] highest = {999, 40, 40, 1, 5, 3, 1};
        for (int what = 0; what <= 6; what++) {
            int number = what;
            Check.due("set(" + what + ", lowest)", rows.set(what, lowest[what]), first[what]);
            range("set(" + what + ", ..)", rows, lowest[what], highest[what], value -> rows.set(number, value));
            Check.due("count(7 + " + what + ")", rows.count(7 + what), highest[what]);
            Check.due("set(" + what + ", lowest)", rows.set(what, lowest[what]), highest[what]);
        }
        for (int what : new int[] {-1, 7, LEAST_INT, GREATEST_INT}) {
            Check.refused(rows, "set(" + what + ", 0)", Check.BAD, () -> rows.set(what, 0));
            Check.refused(rows, "set(" + what + ", 20)", Check.BAD, () -> rows.set(what, 20));
        }
    }

    /** 'Returns how many states are left in the history; STATE if there is none.' */
    private static void undo() {
        FlexRows rows = new FlexRows();
        Check.refused(rows, "undo() of a new object", Check.STATE, rows::undo);
        rows.set(0, 50);
        Check.due("undo() of one state", rows.undo(), 0);
        Check.refused(rows, "undo() of none", Check.STATE, rows::undo);
        Check.insert(rows, 0, "10");
        rows.hide(0);
        Check.due("undo() of two states", rows.undo(), 1);
        Check.due("undo() of one state", rows.undo(), 0);
        Check.refused(rows, "undo() of none", Check.STATE, rows::undo);
        Check.due("items", rows.count(0), 0);
    }

    // ---- Promises 11 to 18

    /** '0 to 9: its properties; 10: 1 if it is hidden, otherwise 0; 11: its wish.' */
    private static void item() {
        FlexRows rows = Check.with("10grow2shrink3min40max50margin6rank-7height8depth9across1", "400", "5max3");
        int[] wanted = {10, 2, 3, 40, 50, 6, -7, 8, 9, 1, 0, 40};
        range("item(0, ..)", rows, 0, 11, what -> rows.item(0, what));
        range("item(.., 11)", rows, 0, 2, item -> rows.item(item, 11));
        for (int what = 0; what < wanted.length; what++) {
            Check.due("item(0, " + what + ")", rows.item(0, what), wanted[what]);
        }
        rows.hide(0);
        Check.due("item(0, 10)", rows.item(0, 10), 1);
        Check.due("item(0, 11) of a hidden item", rows.item(0, 11), 40);
        Check.due("item(0, 12) of a hidden item", rows.item(0, 12), Check.BAD);
        Check.due("item(1, 11)", rows.item(1, 11), 400);
        Check.due("item(2, 11)", rows.item(2, 11), 3);
    }

    /** '0: its line; [..] 7: in which pass, from 1, it was frozen, 0 if at once.' */
    private static void lies() {
        FlexRows rows = Check.with("290", "100grow1margin4height30depth6across1", "60height50", "20rank9");
        int[] wanted = {1, 1, 4, 212, 20, 44, 112, 1};
        range("lies(1, ..)", rows, 0, 7, what -> rows.lies(1, what));
        range("lies(.., 7)", rows, 0, 3, item -> rows.lies(item, 7));
        rows.set(4, 1);
        for (int what = 0; what < wanted.length; what++) {
            // The first line is 10 high, and the second one 50.
            Check.due("lies(1, " + what + ")", rows.lies(1, what), what == 4 ? 30 : what == 5 ? 54 : wanted[what]);
        }
        Check.due("lies(0, 7) at once", rows.lies(0, 7), 0);
        Check.due("lies(0, 2)", rows.lies(0, 2), 10);
        Check.due("lies(3, 1)", rows.lies(3, 1), 3);
        rows.set(0, 280);
        Check.due("lies(0, 6) of one that shrinks", rows.lies(0, 6), -10);
    }

    /** 'STATE if the item is hidden', and BAD ahead of it. */
    private static void liesOfAHiddenItem() {
        FlexRows rows = Check.with("10", "20");
        rows.hide(1);
        for (int what = 0; what <= 7; what++) {
            int told = what;
            Check.refused(rows, "lies(1, " + what + ")", Check.STATE, () -> rows.lies(1, told));
        }
        for (int what : new int[] {-1, 8, LEAST_INT, GREATEST_INT}) {
            Check.refused(rows, "lies(1, " + what + ")", Check.BAD, () -> rows.lies(1, what));
        }
        Check.refused(rows, "lies(2, 0)", Check.BAD, () -> rows.lies(2, 0));
        rows.hide(1);
        Check.due("lies(1, 2)", rows.lies(1, 2), 10);
    }

    /** 'BAD if place is negative; NONE if there are not so many.' */
    private static void ordered() {
        FlexRows rows = Check.with("10", "20rank-1", "30");
        Check.due("ordered(-1)", rows.ordered(-1), Check.BAD);
        Check.due("ordered(0)", rows.ordered(0), 1);
        Check.due("ordered(2)", rows.ordered(2), 2);
        Check.due("ordered(3)", rows.ordered(3), Check.NONE);
        Check.due("ordered(16)", rows.ordered(16), Check.NONE);
        Check.due("ordered(least int)", rows.ordered(LEAST_INT), Check.BAD);
        Check.due("ordered(greatest int)", rows.ordered(GREATEST_INT), Check.NONE);
        rows.hide(1);
        Check.due("ordered(0)", rows.ordered(0), 0);
        Check.due("ordered(1)", rows.ordered(1), 2);
        Check.due("ordered(2)", rows.ordered(2), Check.NONE);
    }

    /** 'BAD if line is negative or what is out of range; NONE if there are not so many lines.' */
    private static void line() {
        FlexRows rows = Check.with("200", "90grow1margin2height30", "150max120height40", "180grow1shrink3");
        rows.set(2, 3);
        // 200 + 94 in the first line; 120 + 180 fill the second one, where the greatest size of 120 is met.
        int[][] wanted = {{2, 0, 0, 30, 0, 1, 1, 294}, {2, 2, 33, 40, 0, 0, 2, 300}};
        for (int line = 0; line < 2; line++) {
            for (int what = 0; what <= 7; what++) {
                Check.due("line(" + line + ", " + what + ")", rows.line(line, what), wanted[line][what]);
            }
        }
        range("line(0, ..)", rows, 0, 7, what -> rows.line(0, what));
        for (int what = 0; what <= 7; what++) {
            Check.due("line(2, " + what + ")", rows.line(2, what), Check.NONE);
            Check.due("line(greatest int, " + what + ")", rows.line(GREATEST_INT, what), Check.NONE);
            Check.due("line(-1, " + what + ")", rows.line(-1, what), Check.BAD);
            Check.due("line(least int, " + what + ")", rows.line(LEAST_INT, what), Check.BAD);
        }
        for (int what : new int[] {-1, 8, LEAST_INT, GREATEST_INT}) {
            Check.due("line(2, " + what + ")", rows.line(2, what), Check.BAD);
            Check.due("line(-1, " + what + ")", rows.line(-1, what), Check.BAD);
        }
    }

    /** 'x: -2000 to 2000; y: 0 to 5000. [..] BAD; NONE if there is none.' */
    private static void at() {
        FlexRows rows = Check.with("10");
        range("at(.., 0)", rows, -2000, 2000, x -> rows.at(x, 0));
        range("at(0, ..)", rows, 0, 5000, y -> rows.at(0, y));
        for (int x : new int[] {-2000, 2000}) {
            for (int y : new int[] {0, 5000}) {
                Check.due("at(" + x + ", " + y + ")", rows.at(x, y), Check.NONE);
            }
        }
        rows.hide(0);
        Check.due("at(0, 0) of a hidden item", rows.at(0, 0), Check.NONE);
    }

    /** 'if x is from its first place to the last one of its size, and y from its top to the last place [..].' */
    private static void atTheEdgesOfAnItem() {
        FlexRows rows = Check.with("20margin3height8across1", "1height30", "0height30", "15height30rank9");
        rows.set(1, 2);
        // The first item lies from 3 to 22, from 22 to 29 below the top; then come 28, 31 (of no size), and 33 to 47.
        int[] xs = {2, 3, 22, 23, 27, 28, 29, 32, 33, 47, 48};
        int[] wanted = {Check.NONE, 0, 0, Check.NONE, Check.NONE, 1, Check.NONE, Check.NONE, 3, 3, Check.NONE};
        for (int k = 0; k < xs.length; k++) {
            Check.due("at(" + xs[k] + ", 22)", rows.at(xs[k], 22), wanted[k]);
        }
        Check.due("the place of the item of no size", rows.lies(2, 2), 31);
        Check.due("at(31, 22)", rows.at(31, 22), Check.NONE);
        Check.due("at(10, 21)", rows.at(10, 21), Check.NONE);
        Check.due("at(10, 29)", rows.at(10, 29), 0);
        Check.due("at(10, 30)", rows.at(10, 30), Check.NONE);
        Check.due("at(28, 0)", rows.at(28, 0), 1);
        Check.due("at(28, 29)", rows.at(28, 29), 1);
        rows.set(6, 1);
        Check.due("at(297, 22) mirrored", rows.at(297, 22), Check.NONE);
        Check.due("at(296, 22) mirrored", rows.at(296, 22), 0);
        Check.due("at(277, 22) mirrored", rows.at(277, 22), 0);
        Check.due("at(276, 22) mirrored", rows.at(276, 22), Check.NONE);
        Check.due("the place of the item of no size", rows.lies(2, 2), 269);
        Check.due("at(269, 22) mirrored", rows.at(269, 22), Check.NONE);
    }

    /** Items reach to -2000 and to 2000, and beyond. */
    private static void atTheEndsOfItsRange() {
        FlexRows rows = Check.with("400shrink0", "400shrink0", "400shrink0", "400shrink0", "400shrink0", "300shrink0");
        rows.set(3, 0);
        rows.set(4, 1);
        rows.set(0, 299);
        Check.due("lies(0, 2)", rows.lies(0, 2), -2001);
        Check.due("at(-2000, 0)", rows.at(-2000, 0), 0);
        Check.due("at(-2001, 0)", rows.at(-2001, 0), Check.BAD);
        rows.set(0, 301);
        Check.due("at(-2000, 0)", rows.at(-2000, 0), Check.NONE);
        Check.due("at(-1999, 0)", rows.at(-1999, 0), 0);
        rows.set(6, 1);
        rows.set(4, 0);
        rows.set(0, 20);
        // Mirrored, the first one lies from -380, and the last one far to the left.
        Check.due("at(19, 0)", rows.at(19, 0), 0);
        Check.due("at(-380, 0)", rows.at(-380, 0), 0);
        Check.due("at(-381, 0)", rows.at(-381, 0), 1);
        Check.due("at(-2000, 0)", rows.at(-2000, 0), 5);
        rows.set(4, 1);
        // The rest of -2280 moves the first one, mirrored, to 1900.
        Check.due("at(2000, 0)", rows.at(2000, 0), 0);
        Check.due("at(2001, 0)", rows.at(2001, 0), Check.BAD);
        Check.due("at(1900, 0)", rows.at(1900, 0), 0);
        Check.due("at(1899, 0)", rows.at(1899, 0), 1);
    }

    /** 'n: the number of lines, 1 to 16; if what is 1, only 0.' */
    private static void leastWidthArguments() {
        FlexRows rows = Check.with("10", "20");
        range("leastWidth(0, ..)", rows, 1, 16, n -> rows.leastWidth(0, n));
        range("leastWidth(1, ..)", rows, 0, 0, n -> rows.leastWidth(1, n));
        for (int what : new int[] {-1, 2, LEAST_INT, GREATEST_INT}) {
            for (int n : new int[] {-1, 0, 1, 16, 17}) {
                Check.refused(rows, "leastWidth(" + what + ", " + n + ")", Check.BAD, () -> rows.leastWidth(what, n));
            }
        }
    }

    /** 'the least width with which there would be at most so many lines'. */
    private static void leastWidthOfLines() {
        FlexRows rows = Check.with("50margin5", "30", "45", "30");
        rows.set(1, 3);
        int[] wanted = {174, 93, 78, 20, 20};
        for (int n = 1; n <= 5; n++) {
            Check.due("leastWidth(0, " + n + ")", rows.leastWidth(0, n), wanted[n - 1]);
        }
        for (int n = 1; n <= 3; n++) {
            rows.set(0, wanted[n - 1]);
            Check.holds("at most " + n + " lines in " + wanted[n - 1], rows.count(2) <= n);
            rows.set(0, wanted[n - 1] - 1);
            Check.holds("more than " + n + " lines in one less", rows.count(2) > n);
        }
        rows.hide(2);
        Check.due("leastWidth(0, 1) with a hidden item", rows.leastWidth(0, 1), 126);
        rows.set(3, 0);
        Check.due("leastWidth(0, 1) of lines that do not wrap", rows.leastWidth(0, 1), 20);
    }

    /** 'the least width with which no line would have a rest below 0'. */
    private static void leastWidthOfRests() {
        FlexRows rows = Check.with("90min70", "60shrink0", "40max30margin10");
        Check.due("leastWidth(1, 0)", rows.leastWidth(1, 0), 70);
        for (int width = 69; width <= 70; width++) {
            rows.set(0, width);
            boolean below = false;
            for (int line = 0; line < rows.count(2); line++) {
                below |= rows.line(line, 4) < 0;
            }
            Check.due("a rest is below 0 in " + width, below ? 1 : 0, 70 - width);
        }
        rows.set(3, 0);
        // The first one shrinks to 70, the last one to 0, with its margins of 20.
        Check.due("leastWidth(1, 0) of one line", rows.leastWidth(1, 0), 150);
        rows.set(1, 5);
        Check.due("leastWidth(1, 0) with gaps", rows.leastWidth(1, 0), 160);
    }

    /** 'Returns the width, 20 to 999; [..] NONE if there is none.' */
    private static void leastWidthFrom20To999() {
        FlexRows rows = Check.with("20shrink0", "0shrink0");
        Check.due("leastWidth(0, 1) of 20", rows.leastWidth(0, 1), 20);
        Check.due("leastWidth(1, 0) of 20", rows.leastWidth(1, 0), 20);
        rows.change(0, 0, 21);
        Check.due("leastWidth(0, 1) of 21", rows.leastWidth(0, 1), 21);
        Check.due("leastWidth(1, 0) of 21", rows.leastWidth(1, 0), 21);
        rows.change(0, 0, 3);
        Check.due("leastWidth(0, 1) of 3", rows.leastWidth(0, 1), 20);
        Check.due("leastWidth(1, 0) of 3", rows.leastWidth(1, 0), 20);
        FlexRows wide = Check.with("400shrink0", "400shrink0", "199shrink0");
        Check.due("leastWidth(0, 1) of 999", wide.leastWidth(0, 1), 999);
        Check.due("leastWidth(1, 0) of lines that wrap", wide.leastWidth(1, 0), 400);
        wide.set(3, 0);
        Check.due("leastWidth(1, 0) of 999", wide.leastWidth(1, 0), 999);
        wide.change(2, 0, 200);
        Check.due("leastWidth(1, 0) of 1000", wide.leastWidth(1, 0), Check.NONE);
        wide.set(3, 1);
        Check.due("leastWidth(0, 1) of 1000", wide.leastWidth(0, 1), Check.NONE);
        Check.due("leastWidth(0, 2) of 1000", wide.leastWidth(0, 2), 600);
    }

    /** 'without changing it.' */
    private static void leastWidthChangesNothing() {
        FlexRows rows = Check.with("100", "90", "80shrink0");
        rows.set(0, 60);
        rows.set(4, 1);
        long digest = rows.digest();
        Check.due("leastWidth(0, 1)", rows.leastWidth(0, 1), 270);
        Check.due("the width", rows.count(7), 60);
        Check.due("lines", rows.count(2), 3);
        Check.due("digest()", rows.digest(), digest);
        Check.due("leastWidth(1, 0)", rows.leastWidth(1, 0), 80);
        Check.due("lies(2, 2)", rows.lies(2, 2), -20);
        Check.due("digest()", rows.digest(), digest);
    }

    /** '0: items; 1: hidden ones; [..] 5: states in the history; 6: bytes of the text; 7 to 13: [..] the box.' */
    private static void count() {
        FlexRows rows = Check.with("200height20", "150height30", "100");
        range("count", rows, 0, 13, rows::count);
        int[] box = {250, 11, 12, 0, 5, 3, 1};
        for (int what = 0; what < box.length; what++) {
            rows.set(what, box[what]);
        }
        rows.hide(2);
        int[] wanted = {3, 1, 1, 30, 250, 8, 3, 250, 11, 12, 0, 5, 3, 1};
        for (int what = 0; what < wanted.length; what++) {
            Check.due("count(" + what + ")", rows.count(what), wanted[what]);
        }
        rows.set(3, 1);
        Check.due("count(2) of lines that wrap", rows.count(2), 2);
        Check.due("count(3) of lines that wrap", rows.count(3), 62);
    }

    /** '4: the greatest end of an item (its first place + its size; NONE if there is none)'. */
    private static void theGreatestEnd() {
        FlexRows rows = new FlexRows();
        Check.due("count(4) of no item", rows.count(4), Check.NONE);
        Check.insert(rows, 0, "0");
        Check.due("count(4) of no size", rows.count(4), 0);
        Check.insert(rows, 1, "200margin9");
        Check.due("count(4) without the margin behind", rows.count(4), 209);
        Check.insert(rows, 2, "150");
        Check.due("count(4) of the longest line", rows.count(4), 209);
        rows.hide(1);
        Check.due("count(4)", rows.count(4), 150);
        rows.hide(0);
        rows.hide(2);
        Check.due("count(4) of hidden items", rows.count(4), Check.NONE);
        FlexRows wide = Check.with("400shrink0", "10");
        wide.set(0, 20);
        Check.due("count(4) right of the box", wide.count(4), 400);
        wide.set(6, 1);
        Check.due("count(4) mirrored", wide.count(4), 20);
    }

    /** 'It is 148 at first; for each of the following numbers [..] it becomes 31 times itself plus the number.' */
    private static void digest() {
        long hash = 148;
        int[] counts = {0, 0, 0, 0, Check.NONE, 0, 0, 300, 0, 0, 1, 0, 0, 0};
        for (int number : counts) {
            hash = 31 * hash + number;
        }
        Check.due("digest() of a new object", new FlexRows().digest(), hash);

        // Two items, of which the second one is hidden, in one line, and the text "7 ?".
        FlexRows rows = Check.with("10grow2rank-3", "20margin4");
        rows.hide(1);
        Check.type(rows, "7 ?");
        int[][] numbers = {
            {2, 1, 1, 10, 300, 3, 3, 300, 0, 0, 1, 0, 0, 0},
            {10, 2, 1, 0, 400, 0, -3, 10, 0, 4, 0, 10}, {0, 0, 0, 300, 0, 10, 290, 1},
            {20, 0, 1, 0, 400, 4, 0, 10, 0, 4, 1, 20},
            {1, 0, 0, 10, 0, 1, 1, 10},
            {0}, {'7', ' ', '?'}};
        hash = 148;
        for (int[] some : numbers) {
            for (int number : some) {
                hash = 31 * hash + number;
            }
        }
        Check.due("digest() of two items", rows.digest(), hash);
        rows.type('?');
        rows.undo();
        Check.holds("another text and no hidden item are told", rows.digest() != hash);
    }

    /** '(long arithmetic with overflow)': the sum is too great for a long when there are items. */
    private static void digestOverflows() {
        FlexRows rows = Check.with("1", "2");
        BigInteger sum = BigInteger.valueOf(148);
        int[] numbers = {
            2, 0, 1, 10, 3, 2, 1, 300, 0, 0, 1, 0, 0, 0,
            1, 0, 1, 0, 400, 0, 0, 10, 0, 4, 0, 1, 0, 0, 0, 1, 0, 10, 0, 0,
            2, 0, 1, 0, 400, 0, 0, 10, 0, 4, 0, 2, 0, 1, 1, 2, 0, 10, 0, 0,
            2, 0, 0, 10, 297, 1, 0, 3, 0, 1, '2'};
        for (int number : numbers) {
            sum = sum.multiply(BigInteger.valueOf(31)).add(BigInteger.valueOf(number));
        }
        Check.holds("the sum is too great for a long", sum.bitLength() > 64);
        Check.due("digest()", rows.digest(), sum.longValue());
    }

    private static void bases(FlexRows rows, int... wanted) {
        Check.due("count(0)", rows.count(0), wanted.length);
        for (int item = 0; item < wanted.length; item++) {
            Check.due("item(" + item + ", 0)", rows.item(item, 0), wanted[item]);
        }
        Check.due("item(" + wanted.length + ", 0)", rows.item(wanted.length, 0), Check.BAD);
    }
}
