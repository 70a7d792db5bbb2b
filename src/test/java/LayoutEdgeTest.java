/** Each sentence of 'Terms' on lines, sizes and places that names a boundary, on both its sides. */
public final class LayoutEdgeTest {
    public static void main(String[] args) {
        wishes();
        outerSizes();
        linesThatDoNotWrap();
        anItemThatJustFits();
        hiddenItemsHaveNoGap();
        anItemWiderThanTheBox();
        anItemOfNoSizeInAFullLine();
        asManyLinesAsItems();

        growOrShrink();
        growOrShrinkByTheRoom();
        aRoomOfNothing();
        whoCannotGrow();
        whoCannotShrink();
        nobodyCanFollow();
        theFreeRoom();
        sharesAreRoundedBySums();
        sharesInTheOrderOfTheLine();
        nothingIsMissing();
        allWeightsAreNothing();
        sizesAtTheirLimits();
        correctionsWhoseSumIsNothing();
        correctionsAboveNothing();
        correctionsBelowNothing();
        forgottenSizes();
        aLeastSizeThatIsTheGreatestToo();
        eachLineSharesAlone();
        theGreatestShares();

        marginsFromTheStart();
        aRestOnBothSidesOfNothing();
        oneItemInALine();
        linesByTheirOwnRests();
        aNegativeRestLeftOfTheBox();
        mirrored();

        asHighAsItsHeight();
        theBaseLine();
        whatIsLeftAbove();
        theWayOfTheBox();
        uAndDAroundTheGreatestHeight();
        uAndDBelowNothing();
        uAndDOfItemsByBaseLinesAlone();
        uAndDOfEachLine();
        linesFollowOneAnother();
        Check.finish();
    }

    // ---- Lines

    /** 'its base, but at least its least size, and at most its greatest one.' */
    private static void wishes() {
        FlexRows rows = Check.with("49min50max60", "50min50max60", "51min50max60", "59min50max60", "60min50max60",
                "61min50max60", "0min0max0", "400min400max400");
        int[] wanted = {50, 50, 51, 59, 60, 60, 0, 400};
        for (int item = 0; item < wanted.length; item++) {
            Check.due("item(" + item + ", 11)", rows.item(item, 11), wanted[item]);
        }
    }

    /** 'The outer size of a size is the size + 2 * margin.' */
    private static void outerSizes() {
        int[] margins = {0, 1, 20};
        for (int margin : margins) {
            FlexRows rows = Check.with("10margin" + margin);
            Check.due("the outer wish with the margin " + margin, rows.line(0, 7), 10 + 2 * margin);
        }
    }

    /** 'If lines do not wrap, all items, if there are any, stand in one line.' */
    private static void linesThatDoNotWrap() {
        FlexRows rows = new FlexRows();
        rows.set(3, 0);
        Check.due("count(2) of no item", rows.count(2), 0);
        Check.due("line(0, 0) of no item", rows.line(0, 0), Check.NONE);
        rows.set(0, 20);
        for (int item = 0; item < 16; item++) {
            Check.insert(rows, item, "400");
            Check.due("count(2) of " + (item + 1), rows.count(2), 1);
            Check.due("line(0, 0)", rows.line(0, 0), item + 1);
        }
        Check.due("lies(15, 0)", rows.lies(15, 0), 0);
        rows.set(3, 1);
        Check.due("count(2) of lines that wrap", rows.count(2), 16);
        rows.set(3, 0);
        for (int item = 0; item < 16; item++) {
            Check.due("count(2)", rows.count(2), 1);
            rows.hide(item);
        }
        Check.due("count(2) of hidden items", rows.count(2), 0);
    }

    /** 'an item begins a new line if [..] the sum [..] is greater than the width': 34 + 6 + 40 = 80. */
    private static void anItemThatJustFits() {
        FlexRows rows = Check.with("30margin2", "40");
        rows.set(1, 6);
        rows.set(0, 80);
        Check.due("count(2) in 80", rows.count(2), 1);
        Check.lineTells(rows, 7, 80);
        rows.set(0, 79);
        Check.due("count(2) in 79", rows.count(2), 2);
        Check.lineTells(rows, 7, 34, 40);
        rows.set(1, 5);
        Check.due("count(2) with a gap of 5", rows.count(2), 1);
        rows.change(1, 5, 1);
        Check.due("count(2) with a margin of 1", rows.count(2), 2);
        rows.change(1, 0, 38);
        Check.due("count(2) with a base of 38", rows.count(2), 1);
        rows.change(1, 3, 39);
        Check.due("count(2) with a least size of 39", rows.count(2), 2);
        rows.change(0, 4, 29);
        Check.due("count(2) with a greatest size of 29", rows.count(2), 1);
    }

    /** 'the gaps between them': those of the items of the line, of which a hidden one is none. */
    private static void hiddenItemsHaveNoGap() {
        FlexRows rows = Check.with("30", "0", "40");
        rows.set(1, 6);
        rows.set(0, 81);
        Check.due("count(2)", rows.count(2), 2);
        rows.hide(1);
        rows.set(0, 76);
        Check.due("count(2) in 76", rows.count(2), 1);
        rows.set(0, 75);
        Check.due("count(2) in 75", rows.count(2), 2);
    }

    /** 'if the line has an item already': an item that is wider than the box leaves no empty line. */
    private static void anItemWiderThanTheBox() {
        FlexRows rows = Check.with("50shrink0", "10", "400shrink0", "0", "0");
        rows.set(0, 20);
        Check.due("count(2)", rows.count(2), 4);
        Check.lie(rows, 0, 0, 1, 2, 3, 3);
        Check.lineTells(rows, 0, 1, 1, 1, 2);
        Check.lineTells(rows, 1, 0, 1, 2, 3);
        Check.lineTells(rows, 4, -30, 10, -380, 20);
    }

    /** The sum 20 is not greater than 20; with a gap it is 21. */
    private static void anItemOfNoSizeInAFullLine() {
        FlexRows rows = Check.with("20", "0");
        rows.set(0, 20);
        Check.lie(rows, 0, 0, 0);
        rows.set(1, 1);
        Check.lie(rows, 0, 0, 1);
    }

    /** 'Lines are numbered from 0.' */
    private static void asManyLinesAsItems() {
        FlexRows rows = new FlexRows();
        rows.set(0, 20);
        for (int item = 0; item < 16; item++) {
            Check.insert(rows, item, "11");
            Check.due("lies(" + item + ", 0)", rows.lies(item, 0), item);
            Check.due("line(" + item + ", 1)", rows.line(item, 1), item);
            Check.due("line(" + (item + 1) + ", 1)", rows.line(item + 1, 1), Check.NONE);
        }
        Check.due("count(2)", rows.count(2), 16);
    }

    // ---- Sizes

    /** 'If the sum of the wishes is less than the room, its items grow, otherwise they shrink.' */
    private static void growOrShrink() {
        FlexRows rows = Check.with("100grow1", "199grow1");
        rows.set(3, 0);
        Check.lineTells(rows, 5, 1);
        Check.lie(rows, 3, 100, 200);
        rows.change(1, 0, 200);
        Check.lineTells(rows, 5, 0);
        Check.lie(rows, 3, 100, 200);
        rows.change(1, 0, 201);
        Check.lineTells(rows, 5, 0);
        Check.lie(rows, 3, 100, 200);
        // The wishes count, and not the bases.
        FlexRows capped = Check.with("400max100grow1", "199grow1");
        Check.lineTells(capped, 5, 1);
        FlexRows lifted = Check.with("10min200", "100");
        Check.lineTells(lifted, 5, 0);
    }

    /** 'the width of the box - the gaps between its items - 2 * the margins': 300 - 2 * 10 - 2 * (5 + 4) = 262. */
    private static void growOrShrinkByTheRoom() {
        FlexRows rows = Check.with("100margin5", "100margin4grow1", "61");
        rows.set(1, 10);
        Check.lineTells(rows, 5, 1);
        Check.lineTells(rows, 7, 299);
        Check.lie(rows, 3, 100, 101, 61);
        rows.change(2, 0, 62);
        Check.lineTells(rows, 5, 0);
        Check.lineTells(rows, 7, 300);
        Check.lineTells(rows, 4, 0);
    }

    /** The room can be 0 and below. */
    private static void aRoomOfNothing() {
        int[][] dues = {{21, 1, 1, 0}, {20, 0, 0, 0}};
        FlexRows rows = Check.with("0margin10grow1");
        for (int[] due : dues) {
            rows.set(0, due[0]);
            Check.lineTells(rows, 5, due[1]);
            Check.lie(rows, 3, due[2]);
            Check.lineTells(rows, 4, due[3]);
        }
        rows.change(0, 5, 11);
        Check.lineTells(rows, 5, 0);
        Check.lie(rows, 3, 0);
        Check.lineTells(rows, 4, -2);
    }

    /** 'when growing those with the growth 0, or with a base greater than the wish.' */
    private static void whoCannotGrow() {
        alone("50", 300, 0, 50);
        alone("50shrink9", 300, 0, 50);
        alone("50grow1", 300, 1, 300);
        alone("50grow1shrink0", 300, 1, 300);
        alone("51grow1max50", 300, 0, 50);
        alone("50grow1max50", 300, 1, 50);
        alone("49grow1max50", 300, 1, 50);
        alone("49grow1min50", 300, 1, 300);
        alone("49min50", 300, 0, 50);
        // The least size counts as the greatest one, and the wish is above the base.
        alone("70grow1min80max60", 300, 1, 80);
        alone("90grow1min80max60", 300, 0, 80);
    }

    /** 'when shrinking those with the shrinking 0, or with a base less than the wish.' */
    private static void whoCannotShrink() {
        alone("50shrink0", 20, 0, 50);
        alone("50shrink0grow9", 20, 0, 50);
        alone("50", 20, 1, 20);
        alone("50grow0shrink1", 20, 1, 20);
        alone("49min50", 20, 0, 50);
        alone("50min50", 20, 1, 50);
        alone("51min50", 20, 1, 50);
        alone("51max50", 20, 1, 20);
        alone("70min80max60", 20, 0, 80);
        alone("80min80max60", 20, 1, 80);
    }

    private static void alone(String text, int width, int pass, int size) {
        FlexRows rows = Check.with(text);
        rows.set(0, width);
        Check.due(text + " in " + width + ": lies(0, 7)", rows.lies(0, 7), pass);
        Check.due(text + " in " + width + ": lies(0, 3)", rows.lies(0, 3), size);
        Check.due(text + " in " + width + ": line(0, 6)", rows.line(0, 6), pass);
        Check.due(text + " in " + width + ": line(0, 4)", rows.line(0, 4), width - size);
    }

    /** 'those that cannot follow are frozen at once, at their wishes': without a pass, if these are all. */
    private static void nobodyCanFollow() {
        FlexRows growing = Check.with("50", "60grow9max55", "10min20");
        Check.lie(growing, 3, 50, 55, 20);
        Check.lie(growing, 7, 0, 0, 0);
        Check.lineTells(growing, 6, 0);
        Check.lineTells(growing, 4, 175);
        growing.change(0, 1, 1);
        Check.lie(growing, 3, 225, 55, 20);
        Check.lie(growing, 7, 1, 0, 0);
        Check.lineTells(growing, 6, 1);
        Check.lineTells(growing, 4, 0);
        growing.change(0, 1, 0);
        Check.lineTells(growing, 6, 0);
        Check.lineTells(growing, 4, 175);

        FlexRows shrinking = Check.with("250shrink0", "60min90", "20shrink0min30");
        shrinking.set(3, 0);
        Check.lie(shrinking, 3, 250, 90, 30);
        Check.lie(shrinking, 7, 0, 0, 0);
        Check.lineTells(shrinking, 6, 0);
        Check.lineTells(shrinking, 4, -70);
        shrinking.change(0, 2, 1);
        Check.lie(shrinking, 3, 180, 90, 30);
        Check.lie(shrinking, 7, 1, 0, 0);
        Check.lineTells(shrinking, 6, 1);
        Check.lineTells(shrinking, 4, 0);
    }

    /** 'the room - the sizes of all frozen items - the bases of all others': not their wishes. */
    private static void theFreeRoom() {
        // 100 - 10 - 20 = 70: 35 for each.
        FlexRows growing = Check.with("10min30grow1", "20grow1");
        growing.set(0, 100);
        Check.lie(growing, 3, 45, 55);
        // 100 - 40 - 20 = 40: the first one is frozen at its wish.
        growing.change(0, 0, 60);
        growing.change(0, 4, 40);
        Check.lie(growing, 3, 40, 60);
        Check.lie(growing, 7, 0, 1);
        // 100 - 200 - 100 = -200, shared 2 : 1.
        FlexRows shrinking = Check.with("200max90", "100");
        shrinking.set(0, 100);
        shrinking.set(3, 0);
        Check.lie(shrinking, 3, 67, 33);
        // 100 - 60 - 100 = -60: the first one is frozen at its wish.
        shrinking.change(0, 0, 50);
        shrinking.change(0, 3, 60);
        Check.lie(shrinking, 3, 60, 40);
        Check.lie(shrinking, 7, 0, 1);
    }

    /** 'free * s / t - free * (s - growth) / t more than its base', each division rounded down. */
    private static void sharesAreRoundedBySums() {
        FlexRows growing = Check.with("10grow1", "10grow2", "10grow4");
        int[][] sizes = {{30, 10, 10, 10}, {31, 10, 10, 11}, {33, 10, 11, 12}, {36, 10, 12, 14}, {37, 11, 12, 14}};
        for (int[] due : sizes) {
            growing.set(0, due[0]);
            Check.lie(growing, 3, due[1], due[2], due[3]);
        }
        FlexRows shrinking = Check.with("10", "10shrink2", "10shrink4");
        int[][] less = {{30, 10, 10, 10}, {29, 10, 10, 9}, {27, 10, 9, 8}, {24, 10, 8, 6}, {23, 9, 8, 6}};
        shrinking.set(3, 0);
        for (int[] due : less) {
            shrinking.set(0, due[0]);
            Check.lie(shrinking, 3, due[1], due[2], due[3]);
        }
    }

    /** 'up to it in the order of the line and with its own': 10 * 1 / 3 = 3, and 10 * 2 / 3 = 6. */
    private static void sharesInTheOrderOfTheLine() {
        FlexRows rows = Check.with("5grow1", "5grow2");
        rows.set(0, 20);
        Check.lie(rows, 3, 8, 12);
        rows.change(0, 6, 1);
        Check.lie(rows, 3, 9, 11);
        // In the second line the sums begin anew.
        FlexRows lines = Check.with("20", "5grow1", "5grow2");
        lines.set(0, 20);
        Check.lie(lines, 3, 20, 8, 12);
    }

    /** 'the room that is missing (0 - the free room, but at least 0)': none is missing, and then one place. */
    private static void nothingIsMissing() {
        FlexRows rows = Check.with("10", "10");
        rows.set(0, 20);
        Check.lineTells(rows, 5, 0);
        Check.lie(rows, 3, 10, 10);
        Check.lie(rows, 7, 1, 1);
        rows.set(3, 0);
        rows.change(0, 0, 11);
        Check.lie(rows, 3, 11, 9);
        Check.lineTells(rows, 4, 0);
    }

    /** 'If all weights are 0, an item gets its base.' A base of 0 has no weight when shrinking. */
    private static void allWeightsAreNothing() {
        FlexRows rows = Check.with("0", "0shrink9", "50shrink0");
        rows.set(0, 20);
        rows.set(3, 0);
        Check.lie(rows, 3, 0, 0, 50);
        Check.lie(rows, 7, 1, 1, 0);
        Check.lineTells(rows, 6, 1);
        Check.lineTells(rows, 4, -30);
        // With one weight among them, that one takes all.
        rows.change(1, 0, 1);
        rows.change(2, 0, 19);
        Check.lie(rows, 3, 0, 1, 19);
        rows.change(2, 0, 20);
        Check.lie(rows, 3, 0, 0, 20);
        Check.lie(rows, 7, 1, 1, 0);
    }

    /** 'less than its least size, or greater than its greatest one': 100 is neither below 100 nor above it. */
    private static void sizesAtTheirLimits() {
        FlexRows growing = Check.with("0grow1min100", "0grow1max100", "0grow1");
        Check.lie(growing, 3, 100, 100, 100);
        Check.lie(growing, 7, 1, 1, 1);
        growing.change(0, 3, 101);
        Check.lie(growing, 3, 101, 99, 100);
        Check.lie(growing, 7, 1, 2, 2);
        growing.change(0, 3, 100);
        growing.change(1, 4, 99);
        Check.lie(growing, 3, 100, 99, 101);
        Check.lie(growing, 7, 2, 1, 2);

        FlexRows shrinking = Check.with("150min100", "150max100", "150");
        shrinking.set(3, 0);
        Check.lie(shrinking, 3, 100, 100, 100);
        Check.lie(shrinking, 7, 1, 1, 1);
        shrinking.change(0, 3, 101);
        Check.lie(shrinking, 3, 101, 100, 99);
        Check.lie(shrinking, 7, 1, 2, 2);
        shrinking.change(0, 3, 100);
        shrinking.change(1, 4, 99);
        Check.lie(shrinking, 3, 101, 99, 100);
        Check.lie(shrinking, 7, 2, 1, 2);
    }

    /** 'If it is 0, all items that are not frozen are frozen at their sizes as corrected.' */
    private static void correctionsWhoseSumIsNothing() {
        FlexRows growing = Check.with("0grow1min101", "0grow1max99", "0grow1");
        Check.lie(growing, 3, 101, 99, 100);
        Check.lie(growing, 7, 1, 1, 1);
        Check.lineTells(growing, 6, 1);
        FlexRows shrinking = Check.with("150min120", "150max80", "150");
        shrinking.set(3, 0);
        Check.lie(shrinking, 3, 120, 80, 100);
        Check.lie(shrinking, 7, 1, 1, 1);
        Check.lineTells(shrinking, 6, 1);
    }

    /** 'if it is above 0, those whose least size corrected them': +2 - 1. */
    private static void correctionsAboveNothing() {
        FlexRows growing = Check.with("0grow1min102", "0grow1max99", "0grow1");
        Check.lie(growing, 3, 102, 99, 99);
        Check.lie(growing, 7, 1, 2, 2);
        Check.lineTells(growing, 6, 2);
        FlexRows shrinking = Check.with("150min102", "150max99", "150");
        shrinking.set(3, 0);
        Check.lie(shrinking, 3, 102, 99, 99);
        Check.lie(shrinking, 7, 1, 2, 2);
    }

    /** 'if it is below 0, those whose greatest size corrected them': +1 - 2. */
    private static void correctionsBelowNothing() {
        FlexRows growing = Check.with("0grow1min101", "0grow1max98", "0grow1");
        Check.lie(growing, 3, 101, 98, 101);
        Check.lie(growing, 7, 2, 1, 2);
        Check.lineTells(growing, 6, 2);
        FlexRows shrinking = Check.with("150min101", "150max98", "150");
        shrinking.set(3, 0);
        Check.lie(shrinking, 3, 101, 98, 101);
        Check.lie(shrinking, 7, 2, 1, 2);
    }

    /** 'The sizes of those that are not frozen then are forgotten': a size of 99 as corrected is 80 at last. */
    private static void forgottenSizes() {
        FlexRows rows = Check.with("0grow1min140", "0grow1max99", "0grow1");
        Check.lie(rows, 3, 140, 80, 80);
        Check.lie(rows, 7, 1, 2, 2);
        Check.lineTells(rows, 4, 0);
    }

    /** The least size that counts as the greatest one corrects from both sides. */
    private static void aLeastSizeThatIsTheGreatestToo() {
        FlexRows rows = Check.with("0grow1min99max0", "0grow1", "0grow1");
        Check.lie(rows, 3, 99, 100, 101);
        Check.lie(rows, 7, 1, 2, 2);
        rows.change(0, 3, 100);
        Check.lie(rows, 3, 100, 100, 100);
        Check.lie(rows, 7, 1, 1, 1);
        rows.change(0, 3, 101);
        Check.lie(rows, 3, 101, 99, 100);
        Check.lie(rows, 7, 1, 2, 2);
    }

    /** 'For each line': one grows in no pass, one in two, one shrinks in one. */
    private static void eachLineSharesAlone() {
        FlexRows rows = Check.with("200", "150grow1max160", "100grow1", "400");
        Check.lie(rows, 0, 0, 1, 1, 2);
        Check.lineTells(rows, 5, 1, 1, 0);
        Check.lineTells(rows, 6, 0, 2, 1);
        Check.lineTells(rows, 4, 100, 0, 0);
        Check.lie(rows, 3, 200, 160, 140, 300);
        Check.lie(rows, 7, 0, 1, 2, 1);
        // The one gap of the second line is its own: 290 - 160.
        rows.set(1, 10);
        Check.lie(rows, 0, 0, 1, 1, 2);
        Check.lie(rows, 3, 200, 160, 130, 300);
        Check.lineTells(rows, 4, 100, 0, 0);
    }

    /** 16 items of the greatest weight: 5401 * 57600 / 57600 is missing at last, and each share is 337 or 338. */
    private static void theGreatestShares() {
        FlexRows rows = new FlexRows();
        Check.type(rows, "400shrink9");
        for (int item = 0; item < 16; item++) {
            rows.insert(item);
        }
        rows.set(3, 0);
        rows.set(0, 999);
        for (int item = 0; item < 16; item++) {
            int less = 5401 * (item + 1) / 16 - 5401 * item / 16;
            Check.due("lies(" + item + ", 3)", rows.lies(item, 3), 400 - less);
        }
        Check.lineTells(rows, 4, 0);
        // No room at all: 20 - 15 * 40 - 16 * 2 * 20 = -1220, and 7620 is missing.
        rows.set(1, 40);
        rows.set(0, 20);
        for (int item = 0; item < 16; item++) {
            rows.change(item, 5, 20);
        }
        Check.due("lies(15, 3) without room", rows.lies(15, 3), 0);
        Check.lineTells(rows, 4, -1220);
        Check.lineTells(rows, 6, 1);
    }

    // ---- Along the line

    /** 'at its margin from the start, each other one at its margin behind the end of the one before, [..]' */
    private static void marginsFromTheStart() {
        FlexRows rows = Check.with("20", "30", "10");
        Check.lie(rows, 2, 0, 20, 50);
        rows.set(1, 7);
        Check.lie(rows, 2, 0, 27, 64);
        rows.change(0, 5, 20);
        Check.lie(rows, 2, 20, 67, 104);
        rows.change(1, 5, 3);
        Check.lie(rows, 2, 20, 70, 110);
        rows.change(2, 5, 1);
        Check.lie(rows, 2, 20, 70, 111);
    }

    /** 'If the rest is below 0, [..] 3 as 0, 4 and 5 as 2. Otherwise [..]': two items of 20 in 41, 40, 39 and so on. */
    private static void aRestOnBothSidesOfNothing() {
        FlexRows rows = Check.with("20shrink0", "20shrink0");
        rows.set(3, 0);
        ways(rows, 47, new int[][] {{0, 20}, {7, 27}, {3, 23}, {0, 27}, {1, 25}, {2, 24}});
        ways(rows, 41, new int[][] {{0, 20}, {1, 21}, {0, 20}, {0, 21}, {0, 20}, {0, 20}});
        ways(rows, 40, new int[][] {{0, 20}, {0, 20}, {0, 20}, {0, 20}, {0, 20}, {0, 20}});
        ways(rows, 39, new int[][] {{0, 20}, {-1, 19}, {-1, 19}, {0, 20}, {-1, 19}, {-1, 19}});
        ways(rows, 38, new int[][] {{0, 20}, {-2, 18}, {-1, 19}, {0, 20}, {-1, 19}, {-1, 19}});
        ways(rows, 33, new int[][] {{0, 20}, {-7, 13}, {-4, 16}, {0, 20}, {-4, 16}, {-4, 16}});
        FlexRows three = Check.with("10", "10", "10");
        ways(three, 41, new int[][] {
            {0, 10, 20}, {11, 21, 31}, {5, 15, 25}, {0, 15, 31}, {1, 15, 29}, {2, 15, 28}});
    }

    /** 'or the line has one item': then 3 is as 0, and 4 and 5 are as 2. */
    private static void oneItemInALine() {
        FlexRows rows = Check.with("30shrink0");
        ways(rows, 37, new int[][] {{0}, {7}, {3}, {0}, {3}, {3}});
        ways(rows, 31, new int[][] {{0}, {1}, {0}, {0}, {0}, {0}});
        ways(rows, 30, new int[][] {{0}, {0}, {0}, {0}, {0}, {0}});
        ways(rows, 29, new int[][] {{0}, {-1}, {-1}, {0}, {-1}, {-1}});
        ways(rows, 23, new int[][] {{0}, {-7}, {-4}, {0}, {-4}, {-4}});
    }

    /** Each line has its own rest, and its own number of items. */
    private static void linesByTheirOwnRests() {
        FlexRows rows = Check.with("20", "20", "30", "60shrink0");
        ways(rows, 47, new int[][] {{0, 20, 0, 0}, {7, 27, 17, -13}, {3, 23, 8, -7},
            {0, 27, 0, 0}, {1, 25, 8, -7}, {2, 24, 8, -7}});
    }

    /** 'A negative rest with the way 1 or 2 moves items to the left of the box.' */
    private static void aNegativeRestLeftOfTheBox() {
        FlexRows rows = Check.with("120shrink0margin5");
        rows.set(0, 100);
        ways(rows, 100, new int[][] {{5}, {-25}, {-10}, {5}, {-10}, {-10}});
        rows.set(4, 1);
        Check.due("at(-25, 0)", rows.at(-25, 0), 0);
        Check.due("at(-26, 0)", rows.at(-26, 0), Check.NONE);
        Check.due("count(4)", rows.count(4), 95);
    }

    /** 'If the direction is 1, each item lies mirrored: its first place x becomes width - x - size.' */
    private static void mirrored() {
        FlexRows rows = Check.with("20shrink0", "20shrink0");
        rows.set(3, 0);
        rows.set(6, 1);
        ways(rows, 47, new int[][] {{27, 7}, {20, 0}, {24, 4}, {27, 0}, {26, 2}, {25, 3}});
        ways(rows, 40, new int[][] {{20, 0}, {20, 0}, {20, 0}, {20, 0}, {20, 0}, {20, 0}});
        ways(rows, 33, new int[][] {{13, -7}, {20, 0}, {17, -3}, {13, -7}, {17, -3}, {17, -3}});
        rows.set(6, 0);
        ways(rows, 47, new int[][] {{0, 20}, {7, 27}, {3, 23}, {0, 27}, {1, 25}, {2, 24}});
        FlexRows margins = Check.with("20margin3", "0margin5");
        margins.set(6, 1);
        margins.set(1, 4);
        // From the start: 3, and 3 + 20 + 3 + 4 + 5 = 35.
        Check.lie(margins, 2, 277, 265);
    }

    private static void ways(FlexRows rows, int width, int[][] wanted) {
        rows.set(0, width);
        for (int way = 0; way < wanted.length; way++) {
            rows.set(4, way);
            for (int item = 0; item < wanted[way].length; item++) {
                String call = "lies(" + item + ", 2) in " + width + " with the way " + way;
                Check.due(call, rows.lies(item, 2), wanted[way][item]);
            }
        }
    }

    // ---- Across the line

    /** 'An item is as high as its height', from 1 to 100. */
    private static void asHighAsItsHeight() {
        FlexRows rows = Check.with("5height1", "5height100", "5");
        Check.lineTells(rows, 3, 100);
        Check.due("at(0, 0)", rows.at(0, 0), 0);
        Check.due("at(0, 1)", rows.at(0, 1), Check.NONE);
        Check.due("at(5, 99)", rows.at(5, 99), 1);
        Check.due("at(5, 100)", rows.at(5, 100), Check.NONE);
        Check.due("at(10, 9)", rows.at(10, 9), 2);
        Check.due("at(10, 10)", rows.at(10, 10), Check.NONE);
        rows.hide(1);
        Check.lineTells(rows, 3, 10);
        rows.hide(2);
        Check.lineTells(rows, 3, 1);
    }

    /** 'at height - depth below its top (its depth can be greater than its height).' */
    private static void theBaseLine() {
        FlexRows rows = Check.with("1height10", "1height10depth9", "1height10depth10", "1height10depth11",
                "1height1depth50", "1height100depth50");
        Check.lie(rows, 5, 10, 1, 0, -1, -49, 50);
        rows.set(5, 1);
        Check.lie(rows, 5, 100, 91, 90, 89, 50, 50);
    }

    /** '1 at the bottom, 2 in the middle (half of what is left above, rounded down)'. */
    private static void whatIsLeftAbove() {
        FlexRows rows = Check.with("1height10", "1height9", "1height8", "1height7", "1height1");
        rows.set(5, 1);
        Check.lie(rows, 4, 0, 1, 2, 3, 9);
        rows.set(5, 2);
        Check.lie(rows, 4, 0, 0, 1, 1, 4);
        rows.set(5, 0);
        Check.lie(rows, 4, 0, 0, 0, 0, 0);
    }

    /** 'an item with the way 4 has that of the box', and no other item has it. */
    private static void theWayOfTheBox() {
        FlexRows rows = Check.with("1height30depth10across3", "1height20", "1height20across0", "1height20across1",
                "1height20across2", "1height20across3");
        int[] wayOfBox = {0, 10, 5, 0};
        for (int way = 0; way <= 3; way++) {
            rows.set(5, way);
            Check.lie(rows, 4, 0, wayOfBox[way], 0, 10, 5, 0);
        }
    }

    /** 'the greatest height of its items, but at least u + d': u = 20 and d = 10, and a height of 30. */
    private static void uAndDAroundTheGreatestHeight() {
        FlexRows rows = Check.with("1height30depth10across3", "1height22depth2across3", "1height5");
        Check.lineTells(rows, 3, 30);
        Check.lie(rows, 4, 0, 0, 0);
        rows.change(1, 7, 21);
        Check.lineTells(rows, 3, 30);
        Check.lie(rows, 4, 0, 1, 0);
        rows.change(1, 7, 23);
        Check.lineTells(rows, 3, 31);
        Check.lie(rows, 4, 1, 0, 0);
        Check.lie(rows, 5, 21, 21, 5);
        rows.change(2, 7, 31);
        Check.lineTells(rows, 3, 31);
        rows.change(2, 7, 32);
        Check.lineTells(rows, 3, 32);
        Check.lie(rows, 4, 1, 0, 0);
        rows.change(1, 8, 12);
        // u is 20 again, d is 12: 32.
        Check.lineTells(rows, 3, 32);
        Check.lie(rows, 4, 0, 9, 0);
        rows.change(1, 8, 13);
        Check.lineTells(rows, 3, 33);
    }

    /** u is below 0 if each depth is greater than the height; d is at least 0. */
    private static void uAndDBelowNothing() {
        FlexRows rows = Check.with("1height10depth30across3");
        Check.lineTells(rows, 3, 10);
        Check.lie(rows, 4, 0);
        Check.lie(rows, 5, -20);
        Check.insert(rows, 1, "1height1across3");
        // u is 1, d is 30.
        Check.lineTells(rows, 3, 31);
        Check.lie(rows, 4, 21, 0);
        Check.lie(rows, 5, 1, 1);
        rows.change(1, 8, 2);
        // u is -1, d is 30.
        Check.lineTells(rows, 3, 29);
        Check.lie(rows, 4, 19, 0);
        Check.lie(rows, 5, -1, -1);
        FlexRows shallow = Check.with("1height10across3", "1height20across3");
        Check.lineTells(shallow, 3, 20);
        Check.lie(shallow, 4, 10, 0);
        FlexRows deepest = Check.with("1height1depth50across3");
        Check.lineTells(deepest, 3, 1);
        Check.lie(deepest, 4, 0);
    }

    /** 'of the items of a line with the way 3', be it their own or that of the box; 'if there are' any. */
    private static void uAndDOfItemsByBaseLinesAlone() {
        FlexRows rows = Check.with("1height10depth50", "1height12", "1height9depth8across1");
        Check.lineTells(rows, 3, 12);
        rows.set(5, 3);
        Check.lineTells(rows, 3, 62);
        Check.lie(rows, 4, 52, 0, 53);
        rows.change(0, 9, 0);
        Check.lineTells(rows, 3, 12);
        Check.lie(rows, 4, 0, 0, 3);
        rows.set(5, 0);
        rows.change(1, 9, 3);
        Check.lineTells(rows, 3, 12);
        rows.change(2, 9, 3);
        Check.lineTells(rows, 3, 20);
        Check.lie(rows, 4, 0, 0, 11);
    }

    /** The base lines of one line do not move those of another one. */
    private static void uAndDOfEachLine() {
        FlexRows rows = Check.with("200height30", "60height10", "200height20depth15", "60height18");
        rows.set(5, 3);
        Check.lie(rows, 0, 0, 0, 1, 1);
        Check.lineTells(rows, 3, 30, 33);
        Check.lie(rows, 4, 0, 20, 43, 30);
        Check.lie(rows, 5, 30, 30, 48, 48);
    }

    /** 'Lines follow one another with the gap between lines, the first one at 0.' */
    private static void linesFollowOneAnother() {
        FlexRows rows = Check.with("200height5", "200height7", "200height11");
        Check.lineTells(rows, 2, 0, 5, 12);
        Check.due("count(3)", rows.count(3), 23);
        rows.set(2, 40);
        Check.lineTells(rows, 2, 0, 45, 92);
        Check.lie(rows, 4, 0, 45, 92);
        Check.due("count(3)", rows.count(3), 103);
        rows.hide(1);
        rows.hide(2);
        Check.due("count(3) of one line", rows.count(3), 5);
        rows.hide(0);
        Check.due("count(3) of no line", rows.count(3), 0);
    }
}
