/**
 * Runs of made-up calls, each answered by the class and by the second program; the calls are the same at
 * each run of the test. Arguments are sensible in most calls, at the ends or senseless in the others.
 */
public final class ModelTest {
    private static final int RUNS = 4000;
    // What comes after the 512th call is free; the insert of a text may take a hundred.
    private static final int CALLS = 400;
    private static final String[] WORDS = {
        "grow", "shrink", "min", "max", "margin", "rank", "height", "depth", "across", "grow", "shrink", "min"};
    private static final int[] LOWEST = {0, 0, 0, 0, 0, 0, -9, 1, 0, 0};
    private static final int[] HIGHEST = {400, 9, 9, 400, 400, 20, 9, 100, 50, 4};
    private static final int[] LOWEST_NUMBER = {20, 0, 0, 0, 0, 0, 0};
    private static final int[] HIGHEST_NUMBER = {999, 40, 40, 1, 5, 3, 1};

    private long seed;
    private FlexRows rows;
    private Model model;
    private int calls;

    private ModelTest(long seed) {
        this.seed = seed * 0x9E3779B97F4A7C15L + 1;
    }

    public static void main(String[] args) {
        for (int run = 0; run < RUNS; run++) {
            new ModelTest(run).run();
        }
        Check.finish();
    }

    private void run() {
        rows = new FlexRows();
        model = new Model();
        calls = 0;
        while (calls < CALLS) {
            call();
        }
        compare("digest", rows.digest(), model.digest());
    }

    private int below(int bound) {
        seed = seed * 6364136223846793005L + 1442695040888963407L;
        return (int) Long.remainderUnsigned(seed >>> 33, bound);
    }

    private int between(int low, int high) {
        return low + below(high - low + 1);
    }

    /** Mostly from low to high; sometimes just outside, seldom far outside. */
    private int about(int low, int high) {
        switch (below(40)) {
            case 0:
                return low - 1;
            case 1:
                return high + 1;
            case 2:
                return low;
            case 3:
                return high;
            case 4:
                return below(8) > 0 ? low : new int[] {
                    Integer.MIN_VALUE, Integer.MAX_VALUE, -1, 1 << 30, -(1 << 28), 390451573}[below(6)];
            default:
                return between(low, high);
        }
    }

    private int someItem() {
        return about(0, Math.max(0, model.count(0) - 1));
    }

    private void compare(String call, long got, long want) {
        calls++;
        if (got != want) {
            Check.due("call " + calls + ": " + call, got, want);
        }
    }

    private void call() {
        int kind = below(100);
        if (kind < 12) {
            insert();
        } else if (kind < 45) {
            change();
        } else if (kind < 52) {
            undoOrType();
        } else {
            tell();
        }
    }

    private void insert() {
        compare("clear()", rows.clear(), model.clear());
        for (char letter : text().toCharArray()) {
            compare("type(" + (int) letter + ")", rows.type(letter), model.type(letter));
        }
        int item = about(0, model.count(0));
        compare("insert(" + item + ")", rows.insert(item), model.insert(item));
    }

    private String text() {
        StringBuilder text = new StringBuilder();
        blanks(text);
        text.append(number(0));
        blanks(text);
        int parts = below(5);
        for (int k = 0; k < parts; k++) {
            int word = below(WORDS.length);
            text.append(WORDS[word]);
            blanks(text);
            text.append(number(word % 9 + 1));
            blanks(text);
        }
        if (below(5) == 0) {
            damage(text);
        }
        return text.toString();
    }

    private void blanks(StringBuilder text) {
        for (int k = below(8); k > 5; k--) {
            text.append(' ');
        }
    }

    private String number(int property) {
        int value = below(60) == 0 ? HIGHEST[property] + 1 : between(LOWEST[property], HIGHEST[property]);
        String digits = "" + Math.abs(value);
        if (below(10) == 0) {
            digits = "000".substring(below(3)) + digits;
        }
        return value < 0 ? "-" + digits : digits;
    }

    private void damage(StringBuilder text) {
        for (int k = 0; k <= below(2); k++) {
            int at = below(text.length() + 1);
            String signs = " -09aginz5Z@/:`{~";
            char sign = below(6) == 0 ? (char) below(128) : signs.charAt(below(signs.length()));
            switch (below(4)) {
                case 0:
                    text.setLength(at);
                    break;
                case 1:
                    text.insert(at, sign);
                    break;
                case 2:
                    if (at < text.length()) {
                        text.deleteCharAt(at);
                    }
                    break;
                default:
                    if (at < text.length()) {
                        text.setCharAt(at, sign);
                    }
                    break;
            }
        }
    }

    private void change() {
        int item = someItem();
        int what;
        int value;
        switch (below(9)) {
            case 0:
                if (below(3) == 0) {
                    compare("remove(" + item + ")", rows.remove(item), model.remove(item));
                }
                break;
            case 1:
                value = someItem();
                compare("move(" + item + ", " + value + ")", rows.move(item, value), model.move(item, value));
                break;
            case 2:
                compare("hide(" + item + ")", rows.hide(item), model.hide(item));
                break;
            case 3:
            case 4:
            case 5:
                what = about(0, 6);
                value = what >= 0 && what < 7 ? about(LOWEST_NUMBER[what], HIGHEST_NUMBER[what]) : below(9);
                compare("set(" + what + ", " + value + ")", rows.set(what, value), model.set(what, value));
                break;
            default:
                what = about(0, 9);
                value = what >= 0 && what < 10 ? about(LOWEST[what], HIGHEST[what]) : below(9);
                compare("change(" + item + ", " + what + ", " + value + ")",
                        rows.change(item, what, value), model.change(item, what, value));
                break;
        }
    }

    private void undoOrType() {
        int letter = about(0, 127);
        switch (below(3)) {
            case 0:
                compare("type(" + letter + ")", rows.type(letter), model.type(letter));
                break;
            default:
                compare("undo()", rows.undo(), model.undo());
                break;
        }
    }

    private void tell() {
        int item = someItem();
        int what;
        int n;
        switch (below(8)) {
            case 0:
                what = about(0, 11);
                compare("item(" + item + ", " + what + ")", rows.item(item, what), model.item(item, what));
                break;
            case 1:
                what = about(0, 7);
                compare("lies(" + item + ", " + what + ")", rows.lies(item, what), model.lies(item, what));
                break;
            case 2:
                compare("ordered(" + item + ")", rows.ordered(item), model.ordered(item));
                break;
            case 3:
                what = about(0, 7);
                n = about(0, Math.max(0, model.count(2) - 1));
                compare("line(" + n + ", " + what + ")", rows.line(n, what), model.line(n, what));
                break;
            case 4:
                at();
                break;
            case 5:
                what = below(12);
                if (what == 0) {
                    what = about(0, 1);
                    n = what == 1 ? about(0, 0) : about(1, 16);
                    n = what == 0 && below(2) == 0 ? between(1, 4) : n;
                    compare("leastWidth(" + what + ", " + n + ")", rows.leastWidth(what, n), model.leastWidth(what, n));
                }
                break;
            case 6:
                what = about(0, 13);
                compare("count(" + what + ")", rows.count(what), model.count(what));
                break;
            default:
                compare("digest()", rows.digest(), model.digest());
                break;
        }
    }

    private void at() {
        int x = about(-2000, 2000);
        int y = about(0, 5000);
        int item = below(Math.max(1, model.count(0)));
        if (below(4) > 0 && model.lies(item, 2) > -3000 && model.item(item, 10) == 0) {
            x = model.lies(item, 2) + (below(2) == 0 ? 0 : model.lies(item, 3)) - below(3) + 1;
            y = model.lies(item, 4) + (below(2) == 0 ? 0 : model.item(item, 7)) - below(3) + 1;
        }
        compare("at(" + x + ", " + y + ")", rows.at(x, y), model.at(x, y));
    }
}
