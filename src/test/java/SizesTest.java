/** Order, lines and sizes, as item(), lies(), ordered() and line() tell them. */
public final class SizesTest {
    public static void main(String[] args) {
        wishes();
        order();
        wrapping();
        noWrapping();
        growing();
        growingIsUneven();
        growingWithLimits();
        smallCorrections();
        asManyPassesAsItems();
        passesAreCountedAnew();
        growingFreezesAtOnce();
        shrinking();
        shrinkingIsUneven();
        shrinkingWithLimits();
        shrinkingFreezesAtOnce();
        noWeights();
        wishesThatFill();
        roomBelowZero();
        Check.finish();
    }

    private static void wishes() {
        FlexRows rows = Check.with("50", "50min60", "50max40", "50min80max20", "10min30max20", "90min30max20");
        int[] wanted = {50, 60, 40, 80, 30, 30};
        for (int item = 0; item < wanted.length; item++) {
            Check.due("item(" + item + ", 11)", rows.item(item, 11), wanted[item]);
        }
        rows.hide(1);
        Check.due("the wish of a hidden item", rows.item(1, 11), 60);
        Check.due("the greatest size as written", rows.item(3, 4), 20);
    }

    private static void order() {
        FlexRows rows = Check.with("1rank3", "1rank-9", "1", "1rank3", "1rank-9", "1rank9", "1");
        int[] wanted = {1, 4, 2, 6, 0, 3, 5};
        for (int place = 0; place < wanted.length; place++) {
            Check.due("ordered(" + place + ")", rows.ordered(place), wanted[place]);
            Check.due("lies(" + wanted[place] + ", 1)", rows.lies(wanted[place], 1), place);
        }
        Check.due("ordered(7)", rows.ordered(7), Check.NONE);
        rows.hide(4);
        Check.due("ordered(1)", rows.ordered(1), 2);
        Check.due("ordered(6)", rows.ordered(6), Check.NONE);
    }

    /** Two items of 40 with the margin 5 and the gap 10 need 110: not more than the width. */
    private static void wrapping() {
        FlexRows rows = Check.with("40margin5shrink0", "40margin5shrink0", "40margin5shrink0");
        rows.set(1, 10);
        rows.set(0, 110);
        Check.lie(rows, 0, 0, 0, 1);
        Check.due("count(2)", rows.count(2), 2);
        Check.lineTells(rows, 0, 2, 1);
        Check.lineTells(rows, 1, 0, 2);
        Check.lineTells(rows, 7, 110, 50);
        Check.lineTells(rows, 4, 0, 60);
        rows.set(0, 109);
        Check.lie(rows, 0, 0, 1, 2);
        Check.lineTells(rows, 7, 50, 50, 50);
        rows.set(0, 20);
        Check.lie(rows, 0, 0, 1, 2);
        Check.lineTells(rows, 4, -30, -30, -30);
        rows.set(0, 170);
        Check.lie(rows, 0, 0, 0, 0);
        rows.hide(1);
        Check.due("count(2)", rows.count(2), 1);
        Check.lineTells(rows, 0, 2);
        Check.due("lies(2, 1)", rows.lies(2, 1), 1);
        rows.hide(0);
        rows.hide(2);
        Check.due("no lines of hidden items", rows.count(2), 0);
        Check.due("line(0, 0)", rows.line(0, 0), Check.NONE);

        FlexRows clamped = Check.with("100max40", "10min60", "1");
        clamped.set(0, 100);
        Check.lie(clamped, 0, 0, 0, 1);
        Check.lineTells(clamped, 7, 100, 1);
    }

    private static void noWrapping() {
        FlexRows rows = Check.with("200shrink0", "200shrink0", "200shrink0");
        rows.set(3, 0);
        Check.due("count(2)", rows.count(2), 1);
        Check.lie(rows, 0, 0, 0, 0);
        Check.lineTells(rows, 7, 600);
        Check.lineTells(rows, 4, -300);
        rows.hide(0);
        rows.hide(1);
        rows.hide(2);
        Check.due("count(2)", rows.count(2), 0);
    }

    /** The room is 300 - 2 * 10 - 2 * 5 = 270; 270 - 120 = 150 are shared 1 : 2 : 3. */
    private static void growing() {
        FlexRows rows = Check.with("60grow1margin5", "40grow2", "20grow3");
        rows.set(1, 10);
        Check.lie(rows, 3, 85, 90, 95);
        Check.lie(rows, 6, 25, 50, 75);
        Check.lie(rows, 7, 1, 1, 1);
        Check.lineTells(rows, 5, 1);
        Check.lineTells(rows, 6, 1);
        Check.lineTells(rows, 4, 0);
    }

    /** 100 is shared 1 : 1 : 1 by rounding the sums down: 33, 66 - 33, 100 - 66. */
    private static void growingIsUneven() {
        FlexRows rows = Check.with("0grow1", "0grow1", "0grow1");
        rows.set(0, 100);
        Check.lie(rows, 3, 33, 33, 34);
        rows.set(0, 101);
        Check.lie(rows, 3, 33, 34, 34);
        rows.change(0, 6, 1);
        Check.lie(rows, 3, 34, 33, 34);
    }

    private static void growingWithLimits() {
        // 300 = 100 each; the greatest size 50 counts first, and 250 are left for two.
        FlexRows greatest = Check.with("0grow1max50", "0grow1", "0grow1");
        Check.lie(greatest, 3, 50, 125, 125);
        Check.lie(greatest, 7, 1, 2, 2);
        Check.lineTells(greatest, 6, 2);
        // 100 each; the least size 180 counts first, and 120 are left for two.
        FlexRows least = Check.with("0grow1", "0grow1min180", "0grow1");
        Check.lie(least, 3, 60, 180, 60);
        Check.lie(least, 7, 2, 1, 2);
        Check.lie(least, 6, 60, 0, 60);
        // +80 and -50: the least size is kept, and then the other one is within its greatest one.
        FlexRows both = Check.with("0grow1", "0grow1min180", "0grow1max50");
        Check.lie(both, 3, 70, 180, 50);
        Check.lie(both, 7, 3, 1, 2);
        Check.lineTells(both, 6, 3);
        // +50 and -50: nothing is left to be shared, and all are frozen.
        FlexRows even = Check.with("0grow1", "0grow1min150", "0grow1max50");
        Check.lie(even, 3, 100, 150, 50);
        Check.lie(even, 7, 1, 1, 1);
        Check.lineTells(even, 6, 1);
        Check.lineTells(even, 4, 0);
        // All at their greatest sizes: the rest stays.
        FlexRows full = Check.with("0grow1max50", "0grow9max60");
        Check.lie(full, 3, 50, 60);
        Check.lie(full, 7, 2, 1);
        Check.lineTells(full, 4, 190);
    }

    /** The corrections are +2 and -1, then +1 and 0: one is enough to freeze by. */
    private static void smallCorrections() {
        FlexRows least = Check.with("0grow1min102", "0grow1max99", "0grow1");
        Check.lie(least, 3, 102, 99, 99);
        Check.lie(least, 7, 1, 2, 2);
        FlexRows one = Check.with("0grow1min101", "0grow1", "0grow1");
        Check.lie(one, 3, 101, 99, 100);
        Check.lie(one, 7, 1, 2, 2);
        FlexRows less = Check.with("0grow1max99", "0grow1", "0grow1");
        Check.lie(less, 3, 99, 100, 101);
        Check.lie(less, 7, 1, 2, 2);
    }

    /** Each pass freezes one item, at its least size; the last one takes what is left. */
    private static void asManyPassesAsItems() {
        FlexRows rows = Check.with(
                "26grow7min32max277", "37grow7min43max21", "0grow9min8max4", "26grow1min27max133",
                "62grow2min64max385", "137grow1min138max10", "2grow8min9max213", "81grow6min87max69",
                "16grow8min23max152", "26grow9min36max377", "26grow6min31max162", "14grow3min17max45",
                "65grow7min337max119", "17grow8min24max25", "22grow9min25max296", "64grow8min94max299");
        rows.set(0, 999);
        rows.set(3, 0);
        Check.lineTells(rows, 6, 16);
        Check.lineTells(rows, 4, 0);
        Check.lie(rows, 7, 10, 11, 7, 8, 4, 5, 9, 6, 12, 3, 14, 13, 1, 15, 16, 2);
        Check.lie(rows, 3, 32, 43, 8, 27, 64, 138, 9, 87, 23, 36, 31, 17, 337, 24, 29, 94);
    }

    private static void passesAreCountedAnew() {
        FlexRows rows = Check.with("0grow1", "0grow1min180", "0grow1max50");
        Check.lineTells(rows, 6, 3);
        rows.change(0, 1, 0);
        rows.change(1, 1, 0);
        rows.change(2, 1, 0);
        Check.lineTells(rows, 6, 0);
        Check.lie(rows, 7, 0, 0, 0);
    }

    private static void growingFreezesAtOnce() {
        FlexRows rows = Check.with("50", "60max40grow1", "10min30grow1", "60grow1");
        // 300 - 50 - 40 - 10 - 60 = 140: 10 + 70 and 60 + 70.
        Check.lie(rows, 3, 50, 40, 80, 130);
        Check.lie(rows, 7, 0, 0, 1, 1);
        FlexRows none = Check.with("50", "60");
        Check.lie(none, 3, 50, 60);
        Check.lie(none, 7, 0, 0);
        Check.lineTells(none, 4, 190);
        Check.lineTells(none, 5, 1);
        Check.lineTells(none, 6, 0);
    }

    /** 120 * 3 : 200 * 1 : 80 * 4 = 360 : 200 : 320; 100 are missing: 40, 63 - 40, 100 - 63. */
    private static void shrinking() {
        FlexRows rows = Check.with("120shrink3", "200", "80shrink4");
        rows.set(3, 0);
        // 36000 / 880 = 40, 56000 / 880 = 63.
        Check.lie(rows, 3, 80, 177, 43);
        Check.lie(rows, 6, -40, -23, -37);
        Check.lie(rows, 7, 1, 1, 1);
        Check.lineTells(rows, 5, 0);
        Check.lineTells(rows, 6, 1);
        Check.lineTells(rows, 4, 0);
    }

    private static void shrinkingIsUneven() {
        FlexRows rows = Check.with("100", "100", "100");
        rows.set(3, 0);
        rows.set(0, 200);
        Check.lie(rows, 3, 67, 67, 66);
        rows.set(0, 199);
        Check.lie(rows, 3, 67, 66, 66);
    }

    private static void shrinkingWithLimits() {
        // 300 are missing: 100 each; the least size 150 is kept, and 300 - 150 is for two.
        FlexRows least = Check.with("200", "200min150", "200");
        least.set(3, 0);
        Check.lie(least, 3, 75, 150, 75);
        Check.lie(least, 7, 2, 1, 2);
        Check.lineTells(least, 6, 2);
        // The sizes 100, 100, 100: +50 for the least one, -80 for the greatest one, which counts.
        FlexRows both = Check.with("200", "200min150", "200max20");
        both.set(3, 0);
        // The wishes are 200 + 200 + 20 = 420: more than the room of 300.
        Check.lie(both, 3, 130, 150, 20);
        Check.lie(both, 7, 3, 2, 1);
        // All at their least sizes: the rest is below 0.
        FlexRows full = Check.with("200min180", "200min170");
        full.set(3, 0);
        Check.lie(full, 3, 180, 170);
        Check.lineTells(full, 4, -50);
        Check.lineTells(full, 6, 1);
    }

    private static void shrinkingFreezesAtOnce() {
        FlexRows rows = Check.with("150shrink0", "50min100", "200");
        rows.set(3, 0);
        Check.lie(rows, 3, 150, 100, 50);
        Check.lie(rows, 7, 0, 0, 1);
        FlexRows all = Check.with("250shrink0", "100shrink0");
        all.set(3, 0);
        Check.lie(all, 7, 0, 0);
        Check.lineTells(all, 4, -50);
        Check.lineTells(all, 5, 0);
        Check.lineTells(all, 6, 0);
    }

    /** A base of 0 has the weight 0 when shrinking; with no weight at all, items get their bases. */
    private static void noWeights() {
        FlexRows rows = Check.with("400shrink0", "0", "0");
        rows.set(3, 0);
        Check.lie(rows, 3, 400, 0, 0);
        Check.lie(rows, 7, 0, 1, 1);
        Check.lineTells(rows, 4, -100);
    }

    /** Items whose wishes fill the room do not grow. */
    private static void wishesThatFill() {
        FlexRows rows = Check.with("100grow1", "200grow1");
        Check.lineTells(rows, 5, 0);
        Check.lineTells(rows, 4, 0);
        Check.lie(rows, 3, 100, 200);
        Check.lie(rows, 7, 1, 1);
        rows.set(0, 301);
        Check.lineTells(rows, 5, 1);
        Check.lie(rows, 3, 100, 201);
        // The bases are more than the room, the wishes less: growing, with the one base frozen.
        FlexRows capped = Check.with("400max100grow1", "50grow1");
        Check.lineTells(capped, 5, 1);
        Check.lie(capped, 3, 100, 200);
        // The bases are less than the room, the wishes more: 300 - 250 - 60 - 20 = -30, shared 3 : 1.
        FlexRows lifted = Check.with("10min250", "60max400", "20min1");
        lifted.set(3, 0);
        Check.lineTells(lifted, 5, 0);
        Check.lie(lifted, 3, 250, 38, 12);
        // 300 - 5 - 90 - 10 = 195 in the first pass, and 300 - 5 - 90 - 200 = 5 in the second one.
        FlexRows over = Check.with("90grow1", "10grow1min200", "5");
        Check.lie(over, 3, 95, 200, 5);
        Check.lie(over, 7, 2, 1, 0);
    }

    /** The margins and gaps alone are more than the width. */
    private static void roomBelowZero() {
        FlexRows rows = Check.with("10margin20", "10margin20");
        rows.set(0, 20);
        rows.set(1, 40);
        rows.set(3, 0);
        // 20 - 40 - 80 = -100: 120 are missing.
        Check.lie(rows, 3, 0, 0);
        Check.lineTells(rows, 4, -100);
        Check.lineTells(rows, 6, 1);
        Check.lineTells(rows, 7, 140);
    }
}
