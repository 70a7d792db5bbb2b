/** Each sentence of 'Terms' on errors, items, the box, texts and the order that names a boundary, on both its sides. */
public final class TermsEdgeTest {
    private static final String[] WORDS = {
        "", "grow", "shrink", "min", "max", "margin", "rank", "height", "depth", "across"};
    private static final int[] UNWRITTEN = {0, 0, 1, 0, 400, 0, 0, 10, 0, 4};
    private static final int[] LOWEST = {0, 0, 0, 0, 0, 0, -9, 1, 0, 0};
    private static final int[] HIGHEST = {400, 9, 9, 400, 400, 20, 9, 100, 50, 4};
    private static final int[] LOWEST_NUMBER = {20, 0, 0, 0, 0, 0, 0};
    private static final int[] HIGHEST_NUMBER = {999, 40, 40, 1, 5, 3, 1};
    private static final int[] FIRST_NUMBER = {300, 0, 0, 1, 0, 0, 0};
    private static final int[] FAR = {Integer.MIN_VALUE, -1_000_000, 1_000_000, Integer.MAX_VALUE};

    public static void main(String[] args) {
        resultsOfMinus2000AndLess();
        restsAndPlacesAsSmallAsErrors();
        theFirstErrorCounts();
        anErrorChangesNothing();
        noneIsNoError();
        noneOnlyIfNoErrorApplies();
        divisionsRoundDown();

        atMost16Items();
        itemsAreNumberedFrom0();
        rangesOfTheProperties();
        hiddenOrNot();
        aLeastSizeAboveTheGreatest();
        rangesOfTheBox();
        theBoxAtFirst();

        atMost80Bytes();
        anItemIsABaseAndParts();
        eachWordOnceAtMost();
        oneToThreeDigits();
        asManyDigitsAsThereAre();
        zerosInFront();
        aMinusForRankAlone();
        aMinusDirectlyAhead();
        rangesInTheText();
        whatIsNotWritten();
        blanksBetween();
        noBlanksWithin();
        onlyByte32IsABlank();

        theFaultOfAByte();
        theFaultOfLetters();
        theFaultOfAWordThatStood();
        theFaultOfANumberOutOfItsRange();
        theFaultOfAnEarlyEnd();
        theLeastFaultCounts();

        theOrderOfRanks();
        theOrderOfNumbers();
        hiddenItemsHaveNoPlace();
        Check.finish();
    }

    // ---- Errors

    /** 'Results of -2000 and less are errors, too.' The least and the greatest index of a fault. */
    private static void resultsOfMinus2000AndLess() {
        FlexRows rows = Check.with("5");
        Check.type(rows, "");
        Check.refused(rows, "insert(0) with the fault 0", -2000, () -> rows.insert(0));
        Check.type(rows, "7?");
        Check.refused(rows, "insert(0) with the fault 1", -2001, () -> rows.insert(0));
        Check.type(rows, " ".repeat(79) + "x");
        Check.refused(rows, "insert(0) with the fault 79", -2079, () -> rows.insert(0));
        Check.type(rows, " ".repeat(80));
        Check.refused(rows, "insert(0) with the fault 80", -2080, () -> rows.insert(0));
        Check.type(rows, " ".repeat(79) + "7");
        Check.due("insert(0) without a fault", rows.insert(0), 2);
    }

    /** 'A rest, a place [..] that line() and lies() tell may be as small as one of these; it is no error then.' */
    private static void restsAndPlacesAsSmallAsErrors() {
        FlexRows rows = Check.with("400shrink0", "400shrink0", "400shrink0", "100shrink0");
        rows.set(3, 0);
        rows.set(4, 1);
        for (int width = 300; width >= 296; width--) {
            rows.set(0, width);
            Check.lineTells(rows, 4, width - 1300);
            Check.lie(rows, 2, width - 1300, width - 900, width - 500, width - 100);
        }
        FlexRows wide = Check.with("400shrink0", "400shrink0", "400shrink0", "400shrink0", "400shrink0", "300shrink0");
        wide.set(3, 0);
        wide.set(4, 1);
        for (int width = 301; width >= 299; width--) {
            wide.set(0, width);
            Check.lineTells(wide, 4, width - 2300);
            Check.lie(wide, 2, width - 2300, width - 1900);
        }
        wide.set(6, 1);
        Check.lie(wide, 2, 1900, 1500, 1100, 700, 300, 0);
    }

    /** 'If several of them apply to a call, the one that comes first in the description [..] is returned.' */
    private static void theFirstErrorCounts() {
        FlexRows rows = new FlexRows();
        Check.type(rows, " ".repeat(80));
        Check.refused(rows, "type(128) into a full text", Check.BAD, () -> rows.type(128));
        Check.refused(rows, "type(-1) into a full text", Check.BAD, () -> rows.type(-1));
        Check.refused(rows, "type(127) into a full text", Check.FULL, () -> rows.type(127));
        Check.refused(rows, "insert(1) with a fault", Check.BAD, () -> rows.insert(1));
        Check.refused(rows, "insert(0) with a fault", -2080, () -> rows.insert(0));

        FlexRows full = sixteen();
        Check.type(full, "7 8");
        Check.refused(full, "insert(17) into 16 items, with a fault", Check.BAD, () -> full.insert(17));
        Check.refused(full, "insert(-1) into 16 items, with a fault", Check.BAD, () -> full.insert(-1));
        Check.refused(full, "insert(16) into 16 items, with a fault", -2002, () -> full.insert(16));
        Check.type(full, "7");
        Check.refused(full, "insert(17) into 16 items", Check.BAD, () -> full.insert(17));
        Check.refused(full, "insert(16) into 16 items", Check.FULL, () -> full.insert(16));

        full.hide(3);
        Check.refused(full, "lies(3, 8) of a hidden item", Check.BAD, () -> full.lies(3, 8));
        Check.refused(full, "lies(3, -1) of a hidden item", Check.BAD, () -> full.lies(3, -1));
        Check.refused(full, "lies(3, 7) of a hidden item", Check.STATE, () -> full.lies(3, 7));
    }

    /** 'A call that returns an error changes nothing': nor does it record a state, or drop one. */
    private static void anErrorChangesNothing() {
        FlexRows rows = Check.with("10", "20", "30", "40");
        rows.hide(1);
        rows.set(0, 50);
        Check.type(rows, "5 5");
        Check.refused(rows, "type(128)", Check.BAD, () -> rows.type(128));
        Check.refused(rows, "insert(5)", Check.BAD, () -> rows.insert(5));
        Check.refused(rows, "insert(4)", -2002, () -> rows.insert(4));
        Check.refused(rows, "remove(4)", Check.BAD, () -> rows.remove(4));
        Check.refused(rows, "move(0, 4)", Check.BAD, () -> rows.move(0, 4));
        Check.refused(rows, "move(4, 0)", Check.BAD, () -> rows.move(4, 0));
        Check.refused(rows, "change(0, 0, 401)", Check.BAD, () -> rows.change(0, 0, 401));
        Check.refused(rows, "change(0, 10, 0)", Check.BAD, () -> rows.change(0, 10, 0));
        Check.refused(rows, "change(4, 0, 0)", Check.BAD, () -> rows.change(4, 0, 0));
        Check.refused(rows, "hide(4)", Check.BAD, () -> rows.hide(4));
        Check.refused(rows, "set(0, 19)", Check.BAD, () -> rows.set(0, 19));
        Check.refused(rows, "set(7, 0)", Check.BAD, () -> rows.set(7, 0));
        Check.refused(rows, "item(4, 0)", Check.BAD, () -> rows.item(4, 0));
        Check.refused(rows, "lies(1, 0)", Check.STATE, () -> rows.lies(1, 0));
        Check.refused(rows, "ordered(-1)", Check.BAD, () -> rows.ordered(-1));
        Check.refused(rows, "line(0, 8)", Check.BAD, () -> rows.line(0, 8));
        Check.refused(rows, "at(0, -1)", Check.BAD, () -> rows.at(0, -1));
        Check.refused(rows, "leastWidth(0, 0)", Check.BAD, () -> rows.leastWidth(0, 0));
        Check.refused(rows, "count(14)", Check.BAD, () -> rows.count(14));
        Check.due("undo() of set()", rows.undo(), 5);
        Check.due("the width", rows.count(7), 300);
        Check.due("undo() of hide()", rows.undo(), 4);
        Check.due("hidden items", rows.count(1), 0);
        for (int left = 3; left >= 0; left--) {
            Check.due("undo() of insert()", rows.undo(), left);
            Check.due("items", rows.count(0), left);
        }
        Check.refused(rows, "undo()", Check.STATE, rows::undo);
    }

    /** 'NONE is not an error': a call that answers it does what it does else. */
    private static void noneIsNoError() {
        FlexRows rows = Check.with("10", "20", "30");
        rows.hide(0);
        Check.due("states", rows.count(5), 4);
        Check.due("move(0, 2) of a hidden item", rows.move(0, 2), Check.NONE);
        Check.due("item(2, 10)", rows.item(2, 10), 1);
        Check.due("item(2, 0)", rows.item(2, 0), 10);
        Check.due("states", rows.count(5), 5);
        Check.due("undo()", rows.undo(), 4);
        Check.due("item(0, 0)", rows.item(0, 0), 10);
        Check.due("item(0, 10)", rows.item(0, 10), 1);
        Check.due("move(1, 2) of one that is not hidden", rows.move(1, 2), 1);
    }

    /** 'and is returned only if no error applies.' */
    private static void noneOnlyIfNoErrorApplies() {
        FlexRows rows = new FlexRows();
        Check.due("ordered(0)", rows.ordered(0), Check.NONE);
        Check.due("ordered(-1)", rows.ordered(-1), Check.BAD);
        Check.due("line(0, 7)", rows.line(0, 7), Check.NONE);
        Check.due("line(0, 8)", rows.line(0, 8), Check.BAD);
        Check.due("line(-1, 0)", rows.line(-1, 0), Check.BAD);
        Check.due("at(0, 0)", rows.at(0, 0), Check.NONE);
        Check.due("at(0, 5001)", rows.at(0, 5001), Check.BAD);
        FlexRows wide = Check.with("400", "400", "400");
        Check.due("leastWidth(0, 1)", wide.leastWidth(0, 1), Check.NONE);
        Check.due("leastWidth(0, 0)", wide.leastWidth(0, 0), Check.BAD);
        wide.hide(0);
        Check.due("move(0, 2)", wide.move(0, 2), Check.NONE);
        Check.due("move(2, 3)", wide.move(2, 3), Check.BAD);
    }

    /** 'Divisions round down, towards the lower number', below 0, too. */
    private static void divisionsRoundDown() {
        FlexRows rows = Check.with("30shrink0");
        rows.set(4, 2);
        int[][] halves = {
            {34, 2}, {33, 1}, {32, 1}, {31, 0}, {30, 0}, {29, -1}, {28, -1}, {27, -2}, {26, -2}, {23, -4}};
        for (int[] half : halves) {
            rows.set(0, half[0]);
            Check.due("lies(0, 2) in " + half[0], rows.lies(0, 2), half[1]);
        }
    }

    // ---- Items

    /** 'There are at most 16 items.' */
    private static void atMost16Items() {
        FlexRows rows = sixteen();
        Check.refused(rows, "insert(0) of a 17th item", Check.FULL, () -> rows.insert(0));
        Check.refused(rows, "insert(16) of a 17th item", Check.FULL, () -> rows.insert(16));
        rows.hide(0);
        Check.refused(rows, "insert(0) when one is hidden", Check.FULL, () -> rows.insert(0));
        Check.due("remove(15)", rows.remove(15), 15);
        Check.due("insert(15)", rows.insert(15), 16);
        Check.refused(rows, "insert(16)", Check.FULL, () -> rows.insert(16));
    }

    /** 'numbered from 0': -1 and the number of items name none. */
    private static void itemsAreNumberedFrom0() {
        FlexRows rows = new FlexRows();
        Check.due("item(0, 0) of none", rows.item(0, 0), Check.BAD);
        for (int items = 1; items <= 16; items++) {
            Check.insert(rows, items - 1, "" + items);
            Check.due("item(-1, 0)", rows.item(-1, 0), Check.BAD);
            Check.due("item(0, 0)", rows.item(0, 0), 1);
            Check.due("item(" + (items - 1) + ", 0)", rows.item(items - 1, 0), items);
            Check.due("item(" + items + ", 0)", rows.item(items, 0), Check.BAD);
        }
    }

    /** '0 a base, 0 to 400; 1 a growth, 0 to 9; [..] 9 a way across, 0 to 4.' */
    private static void rangesOfTheProperties() {
        for (int what = 0; what <= 9; what++) {
            FlexRows rows = Check.with("1", "0");
            int property = what;
            for (int value : new int[] {LOWEST[what] - 1, HIGHEST[what] + 1, FAR[0], FAR[1], FAR[2], FAR[3]}) {
                Check.refused(rows, "change(1, " + what + ", " + value + ")", Check.BAD,
                        () -> rows.change(1, property, value));
            }
            Check.due("change(1, " + what + ", lowest)", rows.change(1, what, LOWEST[what]), UNWRITTEN[what]);
            Check.due("item(1, " + what + ")", rows.item(1, what), LOWEST[what]);
            Check.due("change(1, " + what + ", highest)", rows.change(1, what, HIGHEST[what]), LOWEST[what]);
            Check.due("item(1, " + what + ")", rows.item(1, what), HIGHEST[what]);
        }
    }

    /** 'An item is hidden or not (not at first).' */
    private static void hiddenOrNot() {
        FlexRows rows = Check.with("10");
        Check.due("item(0, 10) at first", rows.item(0, 10), 0);
        Check.due("count(1) at first", rows.count(1), 0);
        Check.due("hide(0)", rows.hide(0), 1);
        Check.due("item(0, 10)", rows.item(0, 10), 1);
        Check.due("an item behind a hidden one", rows.insert(0), 2);
        Check.due("item(0, 10)", rows.item(0, 10), 0);
        Check.due("item(1, 10)", rows.item(1, 10), 1);
        Check.due("hide(1)", rows.hide(1), 0);
        Check.due("item(1, 10)", rows.item(1, 10), 0);
        rows.hide(1);
        rows.remove(1);
        Check.due("an item where a hidden one was", rows.insert(1), 2);
        Check.due("item(1, 10)", rows.item(1, 10), 0);
    }

    /** 'If its least size is greater than its greatest size, the least size counts as the greatest one, too.' */
    private static void aLeastSizeAboveTheGreatest() {
        String[] texts = {"70grow1min49max50", "70grow1min50max50", "70grow1min51max50", "70grow1min400max0"};
        int[] wanted = {50, 50, 51, 400};
        for (int k = 0; k < texts.length; k++) {
            FlexRows rows = Check.with(texts[k]);
            Check.due("the wish of " + texts[k], rows.item(0, 11), wanted[k]);
            Check.due("the size of " + texts[k], rows.lies(0, 3), wanted[k]);
            rows.change(0, 0, 20);
            Check.due("the wish of 20 in " + texts[k], rows.item(0, 11), k == 0 ? 49 : wanted[k]);
            Check.due("the grown size of 20 in " + texts[k], rows.lies(0, 3), wanted[k]);
        }
        FlexRows told = Check.with("70min51max50");
        Check.due("the greatest size is told as it stands", told.item(0, 4), 50);
        Check.due("the least size", told.item(0, 3), 51);
        told.change(0, 3, 50);
        Check.due("the wish", told.item(0, 11), 50);
    }

    // ---- The box

    /** 'The box has: 0 a width, 20 to 999 (300); [..] 6 the direction, 0 or 1 (0).' */
    private static void rangesOfTheBox() {
        FlexRows rows = Check.with("10", "20");
        for (int what = 0; what <= 6; what++) {
            int number = what;
            for (int value : new int[] {LOWEST_NUMBER[what] - 1, HIGHEST_NUMBER[what] + 1,
                FAR[0], FAR[1], FAR[2], FAR[3]}) {
                Check.refused(rows, "set(" + what + ", " + value + ")", Check.BAD, () -> rows.set(number, value));
            }
            Check.due("set(" + what + ", lowest)", rows.set(what, LOWEST_NUMBER[what]), FIRST_NUMBER[what]);
            Check.due("count(7 + " + what + ")", rows.count(7 + what), LOWEST_NUMBER[what]);
            Check.due("set(" + what + ", highest)", rows.set(what, HIGHEST_NUMBER[what]), LOWEST_NUMBER[what]);
            Check.due("count(7 + " + what + ")", rows.count(7 + what), HIGHEST_NUMBER[what]);
        }
    }

    /** '(In parentheses: at first.)' */
    private static void theBoxAtFirst() {
        FlexRows rows = new FlexRows();
        for (int what = 0; what <= 6; what++) {
            Check.due("count(7 + " + what + ") at first", rows.count(7 + what), FIRST_NUMBER[what]);
        }
    }

    // ---- Text

    /** 'There is a text of at most 80 bytes.' */
    private static void atMost80Bytes() {
        FlexRows rows = new FlexRows();
        for (int length = 1; length <= 80; length++) {
            Check.due("type of byte " + length, rows.type(length < 78 ? ' ' : '0' + length - 78), length);
        }
        Check.refused(rows, "type of byte 81", Check.FULL, () -> rows.type('3'));
        Check.due("insert(0) of 80 bytes", rows.insert(0), 1);
        Check.due("the last bytes are read", rows.item(0, 0), 12);
        Check.due("clear()", rows.clear(), 80);
        Check.due("type('3')", rows.type('3'), 1);
    }

    /** 'item = base { part }': no part, one, all nine in any order; and none without a base. */
    private static void anItemIsABaseAndParts() {
        Check.reads("5", 5, 0, 1, 0, 400, 0, 0, 10, 0, 4);
        Check.reads("5grow3", 5, 3, 1, 0, 400, 0, 0, 10, 0, 4);
        Check.reads("5 depth 9 across 1 height 8 rank 7 margin 6 max 50 min 40 shrink 3 grow 2",
                5, 2, 3, 40, 50, 6, 7, 8, 9, 1);
        Check.faulty("grow3", 0);
        Check.faulty("grow3 5", 0);
        Check.faulty("5 6", 2);
        Check.faulty("5 grow 3 6", 9);
    }

    /** 'each stands once at most.' */
    private static void eachWordOnceAtMost() {
        for (int what = 1; what <= 9; what++) {
            String once = "5" + WORDS[what] + "1";
            Check.reads(once, 5);
            Check.faulty(once + WORDS[what] + "1", once.length());
            String other = WORDS[what % 9 + 1] + "1";
            Check.faulty(once + " " + other + " " + WORDS[what] + "1", once.length() + other.length() + 2);
        }
    }

    /** 'Numbers have one to three digits (a fourth digit cannot stand).' */
    private static void oneToThreeDigits() {
        Check.faulty("5min", 4);
        Check.faulty("5min max1", 5);
        Check.reads("5min1", 5, 0, 1, 1);
        Check.reads("5min12", 5, 0, 1, 12);
        Check.reads("5min123", 5, 0, 1, 123);
        Check.faulty("5min1234", 7);
        Check.faulty("5min12345", 7);
        Check.faulty("1234", 3);
        Check.reads("5rank-009", 5, 0, 1, 0, 400, 0, -9);
        Check.faulty("5rank-0090", 9);
    }

    /** 'as many as there are': a number does not end ahead of a digit, nor at an end that the text has not. */
    private static void asManyDigitsAsThereAre() {
        Check.reads("12grow3", 12, 3);
        Check.reads("123grow3", 123, 3);
        Check.faulty("5grow12", 5);
        Check.faulty("5across11", 7);
        Check.faulty("41 0", 3);
    }

    /** '(zeros in front can)' stand, as long as the number has three digits. */
    private static void zerosInFront() {
        Check.reads("007grow09shrink009rank-01height001", 7, 9, 9, 0, 400, 0, -1, 1);
        Check.reads("000", 0);
        Check.faulty("0007", 3);
        Check.faulty("5grow0009", 8);
    }

    /** 'for rank perhaps with "-"': for no other number. */
    private static void aMinusForRankAlone() {
        Check.reads("5rank-1", 5, 0, 1, 0, 400, 0, -1);
        Check.reads("5rank1", 5, 0, 1, 0, 400, 0, 1);
        Check.reads("5rank-0", 5, 0, 1, 0, 400, 0, 0);
        Check.faulty("-5", 0);
        Check.faulty("-0", 0);
        for (int what = 1; what <= 9; what++) {
            if (what != 6) {
                Check.faulty("5" + WORDS[what] + "-1", 1 + WORDS[what].length());
            }
        }
    }

    /** '"-" directly ahead': nothing stands between it and the digits, and it stands once. */
    private static void aMinusDirectlyAhead() {
        Check.reads("5 rank -1", 5, 0, 1, 0, 400, 0, -1);
        Check.faulty("5 rank - 1", 8);
        Check.faulty("5rank--1", 6);
        Check.faulty("5rank1-", 6);
        Check.faulty("5rank-x", 6);
        Check.faulty("5rank+1", 5);
    }

    /** 'they are in the ranges above.' */
    private static void rangesInTheText() {
        for (int what = 0; what <= 9; what++) {
            int start = what == 0 ? 0 : 1 + WORDS[what].length();
            String ahead = what == 0 ? "" : "5" + WORDS[what];
            FlexRows lowest = Check.with(ahead + LOWEST[what]);
            Check.due(ahead + LOWEST[what], lowest.item(0, what), LOWEST[what]);
            FlexRows highest = Check.with(ahead + HIGHEST[what]);
            Check.due(ahead + HIGHEST[what], highest.item(0, what), HIGHEST[what]);
            Check.faulty(ahead + (HIGHEST[what] + 1), start);
            Check.faulty(ahead + "999", start);
        }
        Check.faulty("5rank-10", 5);
        Check.faulty("5rank-999", 5);
        Check.faulty("5height0", 7);
    }

    /** 'What is not written is: growth 0, shrinking 1, [..] across 4', whatever an item ahead of it had. */
    private static void whatIsNotWritten() {
        for (int what = 0; what <= 9; what++) {
            FlexRows rows = Check.with("5grow2shrink3min4max5margin6rank7height8depth9across0");
            String text = what == 0 ? "1" : "1" + WORDS[what] + "2";
            Check.due("insert of " + text, Check.insert(rows, 1, text), 2);
            for (int other = 1; other <= 9; other++) {
                int wanted = other == what ? 2 : UNWRITTEN[other];
                Check.due(text + ": item(1, " + other + ")", rows.item(1, other), wanted);
            }
        }
    }

    /** 'Blanks (byte 32) can stand ahead of and behind words and numbers; none is needed.' */
    private static void blanksBetween() {
        int[] wanted = {5, 2, 1, 0, 400, 0, -3, 10, 0, 4};
        String[] texts = {"5grow2rank-3", " 5grow2rank-3", "5 grow2rank-3", "5grow 2rank-3", "5grow2 rank-3",
            "5grow2rank -3", "5grow2rank-3 ", "  5  grow  2  rank  -3  "};
        for (String text : texts) {
            Check.reads(text, wanted);
        }
    }

    /** A blank inside a word or a number ends it. */
    private static void noBlanksWithin() {
        Check.faulty("1 2", 2);
        Check.faulty("5 gr ow2", 2);
        Check.faulty("5grow1 2", 7);
        Check.faulty("5rank- 3", 6);
    }

    /** Bytes beside 32 are no blanks, wherever a blank can stand. */
    private static void onlyByte32IsABlank() {
        for (char sign : new char[] {0, 9, 10, 13, 31, 33, 127}) {
            Check.faulty(sign + "5", 0);
            Check.faulty("5" + sign, 1);
            Check.faulty("5grow" + sign + "1", 5);
            Check.faulty("5grow1" + sign, 6);
        }
    }

    /** 'the first byte that cannot stand at its place': the signs beside the digits and the letters. */
    private static void theFaultOfAByte() {
        for (char sign : new char[] {'/', ':', '`', '{', '@', 'A', 'Z', '-', '.', ',', '+'}) {
            Check.faulty("" + sign, 0);
            Check.faulty("5" + sign + "grow1", 1);
            Check.faulty("5 grow" + sign + "1", 6);
            Check.faulty("5 grow 1" + sign, 8);
        }
        Check.faulty("5 GROW 1", 2);
        Check.faulty("5 grow x1", 7);
        Check.faulty("5 grow shrink 1", 7);
        Check.faulty("5 grow 1 1", 9);
    }

    /** 'for letters from a to z (as many as stand there) that are none of the words, [..] the first of them.' */
    private static void theFaultOfLetters() {
        String[] letters = {"a", "z", "g", "gro", "grows", "growa", "growz", "xrow", "xgrow", "growgrow",
            "growmax", "mi", "minn", "nin", "ma", "maxx", "mix", "man", "marg", "ran", "ranks",
            "heigh", "heights", "dept", "depths", "acros", "acrosss", "base", "shrin", "shrinks", "marginal",
            "abcdefghijklmnopqrstuvwxyz"};
        for (String word : letters) {
            Check.faulty("5" + word + "1", 1);
            Check.faulty("5  " + word, 3);
            Check.faulty("5 grow 1" + word + " 1", 8);
        }
        Check.faulty("5Agrow1", 1);
        Check.faulty("5growA", 5);
    }

    /** 'or one that stood already, that of the first of them', also where the text ends with it. */
    private static void theFaultOfAWordThatStood() {
        for (int what = 1; what <= 9; what++) {
            int length = WORDS[what].length();
            Check.faulty("5" + WORDS[what] + "1 " + WORDS[what], 3 + length);
            Check.faulty("5" + WORDS[what] + "1" + WORDS[what] + "?", 2 + length);
        }
        Check.faulty("5min1minmax1", 5);
        Check.reads("5min1max1", 5, 0, 1, 1, 1);
    }

    /** 'out of its range by its first three digits that of its first byte ("-" or a digit), whatever follows.' */
    private static void theFaultOfANumberOutOfItsRange() {
        Check.reads("400", 400);
        for (String behind : new String[] {"", " ", "0", "00", "x", "?", " grow1", "-"}) {
            Check.faulty("401" + behind, 0);
            Check.faulty("999" + behind, 0);
            Check.faulty(" 5rank010" + behind, 6);
            Check.faulty(" 5rank-010" + behind, 6);
            Check.faulty(" 5rank -100" + behind, 7);
            Check.faulty("5 height 000" + behind, 9);
            Check.faulty("5 grow 100" + behind, 7);
        }
        Check.faulty("4000", 3);
        Check.faulty("5 rank 0090", 10);
        Check.faulty("5 rank -0090", 11);
        Check.faulty("5 height 0010", 12);
        Check.faulty("5 grow 10", 7);
        Check.faulty("5 grow 10?", 7);
    }

    /** 'and it is the length of the text if the text ends too early.' */
    private static void theFaultOfAnEarlyEnd() {
        Check.faulty("", 0);
        Check.faulty(" ", 1);
        Check.faulty(" ".repeat(80), 80);
        for (int what = 1; what <= 9; what++) {
            Check.faulty("5" + WORDS[what], 1 + WORDS[what].length());
            Check.faulty("5" + WORDS[what] + " ", 2 + WORDS[what].length());
        }
        Check.faulty("5rank-", 6);
        Check.faulty("5rank -", 7);
        Check.faulty("5" + " ".repeat(75) + "grow", 80);
        Check.reads("5" + " ".repeat(74) + "grow2", 5, 2);
    }

    /** 'If a text has several faults, the one with the least index counts.' */
    private static void theLeastFaultCounts() {
        Check.faulty("?401", 0);
        Check.faulty("401?", 0);
        Check.faulty("5 grow 10 ? grow", 7);
        Check.faulty("5 ? grow 10 grow", 2);
        Check.faulty("5 grow 1 grow 10 ?", 9);
        Check.faulty("5 grow 1 foo 10 grow", 9);
        Check.faulty("5 grow foo", 7);
        Check.faulty("5 foo", 2);
        Check.faulty("5 grow 1234 foo", 7);
        Check.faulty("5 min 1234 foo", 9);
    }

    // ---- Order

    /** 'in the order of their ranks', from -9 to 9. */
    private static void theOrderOfRanks() {
        FlexRows rows = Check.with("1rank9", "1rank-9", "1rank0", "1rank1", "1rank-1", "1rank8", "1rank-8");
        order(rows, 1, 6, 4, 2, 3, 5, 0);
        rows.change(2, 6, 2);
        order(rows, 1, 6, 4, 3, 2, 5, 0);
        rows.change(2, 6, -2);
        order(rows, 1, 6, 2, 4, 3, 5, 0);
    }

    /** 'those with the same rank by their numbers.' */
    private static void theOrderOfNumbers() {
        FlexRows rows = Check.with("1rank3", "1rank3", "1rank3", "1rank2");
        order(rows, 3, 0, 1, 2);
        Check.due("move(3, 0)", rows.move(3, 0), 0);
        order(rows, 0, 1, 2, 3);
        rows.change(1, 6, 2);
        order(rows, 0, 1, 2, 3);
        Check.due("move(1, 0)", rows.move(1, 0), 0);
        Check.due("move(0, 3)", rows.move(0, 3), 1);
        order(rows, 0, 3, 1, 2);
    }

    /** 'Items that are not hidden are laid.' */
    private static void hiddenItemsHaveNoPlace() {
        FlexRows rows = Check.with("10", "20rank-1", "30");
        rows.hide(1);
        order(rows, 0, 2);
        Check.lineTells(rows, 0, 2);
        Check.due("lies(0, 2)", rows.lies(0, 2), 0);
        rows.hide(1);
        order(rows, 1, 0, 2);
        Check.due("lies(0, 2)", rows.lies(0, 2), 20);
        rows.hide(0);
        rows.hide(1);
        rows.hide(2);
        order(rows);
    }

    private static void order(FlexRows rows, int... wanted) {
        for (int place = 0; place < wanted.length; place++) {
            Check.due("ordered(" + place + ")", rows.ordered(place), wanted[place]);
            Check.due("lies(" + wanted[place] + ", 1)", rows.lies(wanted[place], 1), place);
        }
        Check.due("ordered(" + wanted.length + ")", rows.ordered(wanted.length), Check.NONE);
    }

    private static FlexRows sixteen() {
        FlexRows rows = new FlexRows();
        for (int item = 0; item < 16; item++) {
            Check.due("insert(" + item + ")", Check.insert(rows, item, "7"), item + 1);
        }
        return rows;
    }
}
