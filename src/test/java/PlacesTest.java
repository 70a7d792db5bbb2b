/** Along the line and across it, as lies(), line(), at() and count() tell them. */
public final class PlacesTest {
    public static void main(String[] args) {
        waysAlong();
        waysWithARestBelowZero();
        waysOfOneItem();
        marginsAndGaps();
        mirrored();
        waysAcross();
        byBaseLines();
        deepBaseLines();
        linesBelowOneAnother();
        covering();
        coveringSeveral();
        greatestEnd();
        Check.finish();
    }

    /** Three items of 20 in a box of 100: the rest is 40. With 103 it is 43, which does not share evenly. */
    private static void waysAlong() {
        FlexRows rows = Check.with("20", "20", "20");
        rows.set(0, 100);
        alongs(rows, new int[][] {
            {0, 20, 40}, {40, 60, 80}, {20, 40, 60}, {0, 40, 80}, {6, 40, 73}, {10, 40, 70}});
        rows.set(0, 103);
        alongs(rows, new int[][] {
            {0, 20, 40}, {43, 63, 83}, {21, 41, 61}, {0, 41, 83}, {7, 41, 75}, {10, 41, 72}});
        Check.lineTells(rows, 4, 43);
    }

    /** 60 in 53: the rest is -7; half of it, rounded down, is -4. */
    private static void waysWithARestBelowZero() {
        FlexRows rows = Check.with("20shrink0", "20shrink0", "20shrink0");
        rows.set(3, 0);
        rows.set(0, 53);
        Check.lineTells(rows, 4, -7);
        alongs(rows, new int[][] {
            {0, 20, 40}, {-7, 13, 33}, {-4, 16, 36}, {0, 20, 40}, {-4, 16, 36}, {-4, 16, 36}});
    }

    private static void waysOfOneItem() {
        FlexRows rows = Check.with("20");
        rows.set(0, 51);
        alongs(rows, new int[][] {{0}, {31}, {15}, {0}, {15}, {15}});
        // With a rest of 0 and more items, each way is the same.
        FlexRows full = Check.with("20", "31");
        full.set(0, 51);
        alongs(full, new int[][] {{0, 20}, {0, 20}, {0, 20}, {0, 20}, {0, 20}, {0, 20}});
    }

    private static void alongs(FlexRows rows, int[][] wanted) {
        for (int way = 0; way < wanted.length; way++) {
            rows.set(4, way);
            Check.lie(rows, 2, wanted[way]);
        }
    }

    private static void marginsAndGaps() {
        FlexRows rows = Check.with("20margin3", "30margin5", "10");
        rows.set(1, 7);
        // 3; 3 + 20 + 3 + 5 + 7; 38 + 30 + 5 + 0 + 7.
        Check.lie(rows, 2, 3, 38, 80);
        rows.set(4, 1);
        Check.lineTells(rows, 4, 300 - 60 - 16 - 14);
        Check.lie(rows, 2, 213, 248, 290);
        rows.set(6, 1);
        Check.lie(rows, 2, 67, 22, 0);
    }

    private static void mirrored() {
        FlexRows rows = Check.with("20", "30");
        rows.set(0, 100);
        rows.set(6, 1);
        Check.lie(rows, 2, 80, 50);
        rows.set(4, 1);
        Check.lie(rows, 2, 30, 0);
        rows.set(4, 3);
        Check.lie(rows, 2, 80, 0);
        FlexRows wide = Check.with("200shrink0", "200shrink0");
        wide.set(3, 0);
        wide.set(6, 1);
        Check.lie(wide, 2, 100, -100);
        Check.due("count(4)", wide.count(4), 300);
    }

    /** The line is 41 high; what is left above 20 in the middle is 21 / 2. */
    private static void waysAcross() {
        FlexRows rows = Check.with("1height41", "1height20across0", "1height20across1", "1height20across2",
                "1height20");
        Check.lie(rows, 4, 0, 0, 21, 10, 0);
        rows.set(5, 1);
        Check.lie(rows, 4, 0, 0, 21, 10, 21);
        rows.set(5, 2);
        Check.lie(rows, 4, 0, 0, 21, 10, 10);
        rows.set(5, 3);
        // The base line of the first one is at 41, and so are those of the items by base lines.
        Check.lie(rows, 4, 0, 0, 21, 10, 21);
        Check.lie(rows, 5, 41, 20, 41, 30, 41);
        Check.lineTells(rows, 3, 41);
        rows.change(4, 9, 0);
        Check.lie(rows, 4, 0, 0, 21, 10, 0);
    }

    private static void byBaseLines() {
        FlexRows rows = Check.with("1height30depth5across3", "1height20depth10across3", "1height12across3",
                "1height33");
        // Above the base line: 25, 10, 12; below it: 5, 10, 0: 25 + 10 = 35.
        Check.lineTells(rows, 3, 35);
        Check.lie(rows, 4, 0, 15, 13, 0);
        Check.lie(rows, 5, 25, 25, 25, 33);
        rows.change(3, 7, 60);
        Check.lineTells(rows, 3, 60);
        Check.lie(rows, 4, 0, 15, 13, 0);
        rows.set(5, 1);
        rows.change(3, 7, 20);
        Check.lie(rows, 4, 0, 15, 13, 15);
    }

    /** All depths are greater than the heights: the base lines are above the line's top. */
    private static void deepBaseLines() {
        FlexRows rows = Check.with("1height10depth30across3", "1height5depth50across3");
        // u is -20 and d is 50: the line is 30 high.
        Check.lineTells(rows, 3, 30);
        Check.lie(rows, 4, 0, 25);
        Check.lie(rows, 5, -20, -20);
        FlexRows deepest = Check.with("1height1depth50across3");
        Check.lineTells(deepest, 3, 1);
        Check.lie(deepest, 4, 0);
        Check.lie(deepest, 5, -49);
        // Depths of items that are not by base lines do not count.
        FlexRows others = Check.with("1height10depth50", "1height10depth3across3");
        Check.lineTells(others, 3, 10);
        Check.lie(others, 5, -40, 7);
    }

    private static void linesBelowOneAnother() {
        FlexRows rows = Check.with("200height30", "200height7", "90height50", "300");
        rows.set(2, 6);
        Check.lie(rows, 0, 0, 1, 1, 2);
        Check.lineTells(rows, 2, 0, 36, 92);
        Check.lineTells(rows, 3, 30, 50, 10);
        Check.lie(rows, 4, 0, 36, 36, 92);
        Check.due("count(3)", rows.count(3), 102);
        rows.set(5, 1);
        Check.lie(rows, 4, 0, 79, 36, 92);
        rows.set(2, 0);
        Check.due("count(3)", rows.count(3), 90);
        for (int item = 0; item < 4; item++) {
            rows.hide(item);
        }
        Check.due("count(3) of no line", rows.count(3), 0);
    }

    private static void covering() {
        FlexRows rows = Check.with("20margin4height10", "30height5across1");
        Check.due("at(3, 0)", rows.at(3, 0), Check.NONE);
        Check.due("at(4, 0)", rows.at(4, 0), 0);
        Check.due("at(23, 9)", rows.at(23, 9), 0);
        Check.due("at(23, 10)", rows.at(23, 10), Check.NONE);
        Check.due("at(24, 9)", rows.at(24, 9), Check.NONE);
        Check.due("at(28, 4)", rows.at(28, 4), Check.NONE);
        Check.due("at(28, 5)", rows.at(28, 5), 1);
        Check.due("at(57, 9)", rows.at(57, 9), 1);
        Check.due("at(58, 9)", rows.at(58, 9), Check.NONE);
        rows.hide(1);
        Check.due("a hidden item", rows.at(28, 5), Check.NONE);
        Check.due("an empty item", Check.with("0").at(0, 0), Check.NONE);
        Check.due("at(-2001, 0)", rows.at(-2001, 0), Check.BAD);
        Check.due("at(2001, 0)", rows.at(2001, 0), Check.BAD);
        Check.due("at(0, -1)", rows.at(0, -1), Check.BAD);
        Check.due("at(0, 5001)", rows.at(0, 5001), Check.BAD);
        Check.due("at(-2000, 0)", rows.at(-2000, 0), Check.NONE);
        Check.due("at(2000, 5000)", rows.at(2000, 5000), Check.NONE);
        Check.due("at(least, least)", rows.at(Integer.MIN_VALUE, Integer.MIN_VALUE), Check.BAD);
        Check.due("at(greatest, greatest)", rows.at(Integer.MAX_VALUE, Integer.MAX_VALUE), Check.BAD);
    }

    /** Items of one line do not overlap, as margins and gaps are not below 0, but ends of the box do not cut. */
    private static void coveringSeveral() {
        FlexRows rows = Check.with("200shrink0", "200shrink0rank-1");
        rows.set(3, 0);
        rows.set(4, 1);
        Check.due("at(-100, 0)", rows.at(-100, 0), 1);
        Check.due("at(-101, 0)", rows.at(-101, 0), Check.NONE);
        Check.due("at(99, 0)", rows.at(99, 0), 1);
        Check.due("at(100, 0)", rows.at(100, 0), 0);
        Check.due("at(300, 0)", rows.at(300, 0), Check.NONE);
    }

    private static void greatestEnd() {
        FlexRows rows = Check.with("200", "120rank-1");
        Check.due("count(4)", rows.count(4), 200);
        rows.set(6, 1);
        Check.due("count(4)", rows.count(4), 300);
        rows.set(6, 0);
        rows.hide(0);
        Check.due("count(4)", rows.count(4), 120);
        rows.hide(1);
        Check.due("count(4)", rows.count(4), Check.NONE);
    }
}
