/** Promises 1 to 3, and the reading of the text for promise 4. */
public final class TextTest {
    public static void main(String[] args) {
        aNewObject();
        typingAndClearing();
        aFullText();
        whatIsNotWritten();
        whatIsWritten();
        blanks();
        endsOfRanges();
        outOfRange();
        textsThatEndTooEarly();
        bytesThatCannotStand();
        words();
        fourDigits();
        minus();
        theLeastFaultCounts();
        everyByteAtEachPlace();
        Check.finish();
    }

    private static void aNewObject() {
        FlexRows rows = new FlexRows();
        int[] wanted = {0, 0, 0, 0, Check.NONE, 0, 0, 300, 0, 0, 1, 0, 0, 0};
        for (int what = 0; what < wanted.length; what++) {
            Check.due("new: count(" + what + ")", rows.count(what), wanted[what]);
        }
        Check.due("new: undo()", rows.undo(), Check.STATE);
        Check.due("new: ordered(0)", rows.ordered(0), Check.NONE);
        Check.due("new: line(0, 0)", rows.line(0, 0), Check.NONE);
        Check.due("new: clear()", rows.clear(), 0);
    }

    private static void typingAndClearing() {
        FlexRows rows = new FlexRows();
        Check.due("type(-1)", rows.type(-1), Check.BAD);
        Check.due("type(128)", rows.type(128), Check.BAD);
        Check.due("type(least int)", rows.type(Integer.MIN_VALUE), Check.BAD);
        Check.due("type(greatest int)", rows.type(Integer.MAX_VALUE), Check.BAD);
        Check.due("count(6)", rows.count(6), 0);
        Check.due("type(0)", rows.type(0), 1);
        Check.due("type(127)", rows.type(127), 2);
        Check.due("count(6)", rows.count(6), 2);
        Check.due("clear()", rows.clear(), 2);
        Check.due("clear() again", rows.clear(), 0);
        Check.due("count(6)", rows.count(6), 0);
        Check.due("typing is no change", rows.count(5), 0);
    }

    private static void aFullText() {
        FlexRows rows = new FlexRows();
        rows.type('7');
        for (int k = 2; k <= 80; k++) {
            Check.due("type of byte " + k, rows.type(' '), k);
        }
        Check.due("type of byte 81", rows.type(' '), Check.FULL);
        Check.due("type(-1) into a full text", rows.type(-1), Check.BAD);
        Check.due("count(6)", rows.count(6), 80);
        Check.due("insert of a full text", rows.insert(0), 1);
        Check.due("the text stays", rows.count(6), 80);
        Check.due("clear()", rows.clear(), 80);
        Check.due("type after clear()", rows.type('7'), 1);
    }

    private static void whatIsNotWritten() {
        Check.reads("7", 7, 0, 1, 0, 400, 0, 0, 10, 0, 4);
    }

    private static void whatIsWritten() {
        Check.reads("1grow2shrink3min4max5margin6rank7height8depth9across0", 1, 2, 3, 4, 5, 6, 7, 8, 9, 0);
        Check.reads("1across0depth9height8rank7margin6max5min4shrink3grow2", 1, 2, 3, 4, 5, 6, 7, 8, 9, 0);
        Check.reads("012max007", 12, 0, 1, 0, 7, 0, 0, 10, 0, 4);
        FlexRows rows = Check.with("9grow9", "8");
        Check.due("an item does not keep another one's growth", rows.item(1, 1), 0);
    }

    private static void blanks() {
        Check.reads("  12  min  3  rank  -4  ", 12, 0, 1, 3, 400, 0, -4, 10, 0, 4);
        Check.reads("12min3rank-4", 12, 0, 1, 3, 400, 0, -4, 10, 0, 4);
    }

    private static void endsOfRanges() {
        Check.reads("0grow0shrink0min0max0margin0rank-9height1depth0across0", 0, 0, 0, 0, 0, 0, -9, 1, 0, 0);
        Check.reads("400grow9shrink9min400max400margin20rank9height100depth50across4",
                400, 9, 9, 400, 400, 20, 9, 100, 50, 4);
        Check.reads("1rank-0", 1, 0, 1, 0, 400, 0, 0, 10, 0, 4);
        Check.reads("1rank-009", 1, 0, 1, 0, 400, 0, -9, 10, 0, 4);
        Check.reads("1height001", 1, 0, 1, 0, 400, 0, 0, 1, 0, 4);
    }

    private static void outOfRange() {
        Check.faulty("401", 0);
        Check.faulty(" 999", 1);
        Check.faulty("1grow10", 5);
        Check.faulty("1shrink10", 7);
        Check.faulty("1min401", 4);
        Check.faulty("1max401", 4);
        Check.faulty("1margin21", 7);
        Check.faulty("1rank10", 5);
        Check.faulty("1rank-10", 5);
        Check.faulty("1rank -010 ", 6);
        Check.faulty("1height0", 7);
        Check.faulty("1height000", 7);
        Check.faulty("1height101", 7);
        Check.faulty("1depth51", 6);
        Check.faulty("1across5", 7);
        Check.faulty("1across 5", 8);
    }

    private static void textsThatEndTooEarly() {
        Check.faulty("", 0);
        Check.faulty("   ", 3);
        Check.faulty("1grow", 5);
        Check.faulty("1grow  ", 7);
        Check.faulty("1rank-", 6);
        Check.faulty("1 min 2 max ", 12);
    }

    private static void bytesThatCannotStand() {
        Check.faulty("-1", 0);
        Check.faulty("a", 0);
        Check.faulty("grow1", 0);
        Check.faulty("1-", 1);
        Check.faulty("1 2", 2);
        Check.faulty("1\t", 1);
        Check.faulty("1Grow2", 1);
        Check.faulty("1growX", 5);
        Check.faulty("1grow max2", 6);
        Check.faulty("1grow2,", 6);
        Check.faulty("1grow2 3", 7);
        Check.faulty("1{", 1);
        Check.faulty("1`", 1);
        Check.faulty("1/", 1);
        Check.faulty("1:", 1);
        Check.faulty("1\0", 1);
        Check.faulty("1\177", 1);
    }

    private static void words() {
        Check.faulty("1gro2", 1);
        Check.faulty("1grows2", 1);
        Check.faulty("1 growth2", 2);
        Check.faulty("1 gr", 2);
        Check.faulty("1growgrow2", 1);
        Check.faulty("1 m2", 2);
        Check.faulty("1 mi2", 2);
        Check.faulty("1 minn2", 2);
        Check.faulty("1 base2", 2);
        Check.faulty("1 g row2", 2);
        Check.faulty("1 xrow2", 2);
        Check.faulty("1growz2", 1);
        Check.faulty("1growa2", 1);
        String[] words = {"grow", "shrink", "min", "max", "margin", "rank", "height", "depth", "across"};
        for (String word : words) {
            Check.faulty("1" + word + "1 " + word + "1", 3 + word.length());
            Check.faulty("1" + word + "1 across2 " + word + "x", word.equals("across") ? 9 : 11 + word.length());
        }
    }

    private static void fourDigits() {
        Check.faulty("0001", 3);
        Check.faulty("4000", 3);
        Check.faulty("4010", 0);
        Check.faulty("1min0000", 7);
        Check.faulty("1grow0009", 8);
        Check.faulty("1grow0090", 8);
        Check.faulty("1grow0100", 5);
        Check.faulty("1rank-0009", 9);
        Check.faulty("1rank-0100", 5);
        Check.faulty("1height0001", 7);
        Check.faulty("1height1000", 10);
        Check.faulty("1 00001", 2);
    }

    private static void minus() {
        Check.faulty("1rank--1", 6);
        Check.faulty("1rank- 1", 6);
        Check.faulty("1rank-a", 6);
        Check.faulty("1rank1-", 6);
        Check.faulty("1min-1", 4);
        Check.faulty("1depth-0", 6);
    }

    private static void theLeastFaultCounts() {
        Check.faulty("401 foo 402", 0);
        Check.faulty("1 foo 402", 2);
        Check.faulty("1 min 402 foo", 6);
        Check.faulty("1 min 4 min 402 ?", 8);
        Check.faulty("1 grow99?", 6);
    }

    /** A byte behind a base begins a word, or is a digit or a blank; any other is the fault. */
    private static void everyByteAtEachPlace() {
        for (int letter = 0; letter < 128; letter++) {
            boolean fits = letter >= '0' && letter <= '9' || letter == ' ';
            FlexRows rows = new FlexRows();
            rows.type('1');
            rows.type(letter);
            Check.due("insert of 1 and byte " + letter, rows.insert(0), fits ? 1 : -2001);
            rows = new FlexRows();
            rows.type(letter);
            int wanted = fits && letter != ' ' ? 1 : letter == ' ' ? -2001 : -2000;
            Check.due("insert of byte " + letter, rows.insert(0), wanted);
        }
    }
}
