/** Promises 25 to 29: the tape and the texts. Worked out by hand from the document. */
public final class TextsTest {
    private static final int BAD = DuelLetters.BAD, FULL = DuelLetters.FULL, NONE = DuelLetters.NONE;
    private static final int MIN = Integer.MIN_VALUE, MAX = Integer.MAX_VALUE;
    private static final Due due = new Due();

    public static void main(String[] args) {
        feed();
        trim();
        values();
        faults();
        nesting();
        usedUp();
        fullOfTexts();
        textTold();
        why();
        due.end();
    }

    private static void feed() {
        due.promise(25);
        DuelLetters x = new DuelLetters();
        // "fee 19-7*2  ": the highest byte of each number first
        due.is(12, x.feed('f' << 24 | 'e' << 16 | 'e' << 8 | ' ', '1' << 24 | '9' << 16 | '-' << 8 | '7',
                '*' << 24 | '2' << 16 | ' ' << 8 | ' '), "feed");
        due.is(0, x.text(), "text");
        due.is(5, x.fee(), "fee 19-7*2");
        for (int i = 1; i <= 8; i++) due.is(12 * i, x.feed(-1, 0, MIN), "feed");
        due.is(FULL, x.feed(0, 0, 0), "feed beyond 96");
        due.is(96, x.count(7), "bytes");
        x.trim(85);
        due.is(FULL, x.feed(0, 0, 0), "feed to 97");
        due.is(85, x.count(7), "bytes behind a refusal");
        x.trim(84);
        due.is(96, x.feed(0, 0, 0), "feed to 96");
    }

    private static void trim() {
        due.promise(26);
        DuelLetters x = new DuelLetters();
        due.is(0, x.trim(0), "trim of nothing");
        due.is(BAD, x.trim(1), "trim of nothing");
        Due.feed(x, "fee 1234567890");
        due.is(14, x.count(7), "bytes");
        due.is(BAD, x.trim(15), "trim to more");
        due.is(14, x.trim(14), "trim to all");
        for (int n : new int[] {-1, MIN, MAX}) due.is(BAD, x.trim(n), "trim to a wrong number");
        due.is(14, x.count(7), "bytes behind refusals");
        due.is(8, x.trim(8), "trim");
        due.is(8, x.count(7), "bytes");
        due.is(0, x.text(), "text");
        due.is(1234, x.fee(), "fee 1234");
        // what was cut off does not come back
        Due.feed(x, "fee 7777");
        x.trim(5);
        x.feed(' ' << 24 | ' ' << 16 | ' ' << 8 | ' ', '+' << 24 | '1' << 16 | ' ' << 8 | ' ', 0x20202020);
        due.is(1, x.text(), "text");
        due.is(8, x.fee(), "fee 7    +1");
    }

    private static void valueIs(int want, String e) {
        DuelLetters x = new DuelLetters();
        due.is(0, Due.tell(x, "fee " + e), "text " + e);
        due.is(want, x.fee(), e);
    }

    private static void values() {
        due.promise(27);
        valueIs(0, "0");
        valueIs(9999, "9999");
        valueIs(7, "0007");
        valueIs(7, "1+2*3");
        valueIs(9, "(1+2)*3");
        valueIs(2, "9-4-3");
        valueIs(3, "9*2/6");
        valueIs(4, "9/6*4");
        valueIs(0, "7/0");
        valueIs(0, "0/0");
        valueIs(-3, "(0-7)/2");
        valueIs(8, "1+7/0+7");
        valueIs(1, "1<2");
        valueIs(0, "2<2");
        valueIs(1, "2=2");
        valueIs(0, "2=3");
        valueIs(1, "3>2");
        valueIs(0, "2>2");
        valueIs(1, "1+1=2");
        valueIs(5, "(1<2)+4");
        valueIs(1, "1<2&2<3");
        valueIs(1, "0&0|1");
        valueIs(1, "1|0&0");
        valueIs(1, "5|0");
        valueIs(1, "5&7");
        valueIs(0, "5&0");
        valueIs(0, "0|0");
        valueIs(1, "0|3|0");
        valueIs(1, "2&3&4");
        valueIs(0, "!5");
        valueIs(1, "!0");
        valueIs(1, "!!5");
        valueIs(2, "!0+1");
        valueIs(0, "!(0+1)");
        valueIs(6, "!0*6");
        valueIs(3, "((3))");
        valueIs(42, "  42  ");
        valueIs(3, "1 +  2");
        valueIs(-5, "l-5");
        valueIs(0, "p*9");
        // 9999 * 9999 * 9999 cut to an int
        valueIs((int) (9999L * 9999L * 9999L), "9999*9999*9999");
        // 2 to the 31st wraps; by -1 it stays
        valueIs(MIN, "4096*4096*128");
        valueIs(MIN, "4096*4096*128/(0-1)");
        DuelLetters x = new DuelLetters();
        due.is(0, Due.tell(x, "fee(1)"), "no blank is needed ahead of a sign");
        due.is(1, Due.tell(x, "tone!p"), "no blank is needed ahead of a sign");
        due.is(2, Due.tell(x, "  fine   y*n   "), "blanks at the ends");
    }

    private static void faultAt(int place, String text) {
        DuelLetters x = new DuelLetters();
        due.is(-100 - place, Due.tell(x, text), "'" + text + "'");
        due.is(0, x.count(5), "texts behind '" + text + "'");
        due.is(0, x.count(7), "the tape behind '" + text + "'");
    }

    private static void faults() {
        faultAt(0, "");
        faultAt(3, "   ");
        faultAt(0, "to");
        faultAt(2, "  tones p");
        faultAt(0, "ton p");
        faultAt(0, "xone p");
        faultAt(0, "tonx p");
        faultAt(0, "gee 1");
        faultAt(0, "mine 1");
        faultAt(0, "tonea p");
        faultAt(0, "tonez p");
        faultAt(7, "tone 1/");
        faultAt(0, "5");
        faultAt(0, "(");
        faultAt(0, "Tone p");
        faultAt(4, "tone");
        faultAt(6, "tone  ");
        faultAt(4, "tone1");
        faultAt(3, "fee12");
        faultAt(5, "tone l");
        faultAt(5, "tone ps");
        faultAt(4, "fee h");
        faultAt(4, "fee y");
        faultAt(5, "fine p");
        faultAt(5, "fine s");
        faultAt(7, "tone p h");
        faultAt(7, "tone p 1");
        faultAt(6, "tone p1");
        faultAt(6, "tone 1p");
        faultAt(8, "tone 1  p");
        faultAt(7, "tone 12p");
        faultAt(5, "tone 12345");
        faultAt(5, "tone 00001");
        faultAt(7, "tone p+12345");
        faultAt(5, "tone tone");
        faultAt(7, "tone p+");
        faultAt(8, "tone p+ ");
        faultAt(5, "tone +p");
        faultAt(5, "tone -1");
        faultAt(7, "tone p+*1");
        faultAt(7, "tone 1+)");
        faultAt(6, "tone p)");
        faultAt(7, "tone (p");
        faultAt(6, "tone ()");
        faultAt(8, "tone (p h)");
        faultAt(7, "tone (p!");
        faultAt(6, "tone !");
        faultAt(6, "tone !)");
        faultAt(6, "tone p!");
        faultAt(6, "tone p(1)");
        faultAt(8, "tone (p)1");
        faultAt(9, "tone (p) h");
        faultAt(8, "tone 1<2<3");
        faultAt(8, "tone 1=2>3");
        faultAt(10, "tone 1<2+3=4");
        faultAt(9, "tone (1<2=3)");
        faultAt(7, "tone p<");
        faultAt(7, "tone p&&1");
        faultAt(7, "tone p||1");
        faultAt(7, "tone p<=1");
        faultAt(6, "tone p\t");
        faultAt(5, "tone P");
        faultAt(5, "tone " + (char) 233);
        faultAt(5, "tone " + (char) 0);
        faultAt(6, "tone p" + (char) 255);
        faultAt(6, "tone p?" + "?".repeat(89));
        faultAt(96, "tone p+" + " ".repeat(89));
        DuelLetters x = new DuelLetters();
        due.is(0, Due.tell(x, "tone 1<2&3<4|5=6"), "one test each between & and |");
        due.is(1, Due.tell(x, "tone (1<2)<3"), "a test within brackets is a piece");
        due.is(2, Due.tell(x, "tone p" + " ".repeat(90)), "96 bytes");
        due.is(3, Due.tell(x, "tone p" + "+1".repeat(45)), "96 bytes");
        due.is(46, x.textTold(3, 1), "numbers and names");
    }

    private static void nesting() {
        valueIs(6, "((((((((6))))))))");
        valueIs(0, "!!!!!!!!0");
        valueIs(1, "!(!(!(!(!(!(!(!(5))))))))");
        faultAt(12, "fee (((((((((6)))))))))");
        faultAt(12, "fee !!!!!!!!!0");
        faultAt(20, "fee !(!(!(!(!(!(!(!(!(5)))))))))");
        // those that are closed again do not count
        valueIs(10, "((((((((1))))))))+((((((((9))))))))");
        valueIs(2, "!!!!!!!!1+!!!!!!!!1");
        valueIs(3, "(((((((1+(2))))))))");
        faultAt(20, "fee ((((((((1)+(2)+((3");
        valueIs(1, "!!!!(!!!(!0&1)|!0)");
        faultAt(14, "fee !!!!(!!!(!!0))");
    }

    private static void usedUp() {
        DuelLetters x = new DuelLetters();
        Due.feed(x, "tone 50");
        due.is(0, x.text(), "text");
        due.is(0, x.count(7), "the tape is used up");
        due.is(-100, x.text(), "an empty tape is no text");
        due.is(1, x.count(5), "texts");
        // a fault leaves nothing behind for the next text
        for (String wrong : new String[] {"tone ps", "tone p 99999", "(((", "tone ((((((((!!!!!!!!", "tone ((((((((("}) {
            Due.tell(x, wrong);
            due.isTrue(Due.tell(x, "tone !((p))+7") >= 0, "a text behind '" + wrong + "'");
        }
    }

    private static void fullOfTexts() {
        DuelLetters x = new DuelLetters();
        for (int i = 0; i < 14; i++) due.is(i, Due.tell(x, "fee " + i), "text");
        due.is(13, x.fee(), "the last one counts");
        Due.feed(x, "fee 99");
        due.is(FULL, x.text(), "a fifteenth text");
        due.is(0, x.count(7), "the tape is used up by a refusal too");
        due.is(-107, Due.tell(x, "fee (99"), "a fault stands ahead of FULL");
        due.is(14, x.count(5), "texts");
        due.is(13, x.fee(), "the last one counts");
        due.is(1, x.textTold(13, 0), "the last text");
        for (int t : new int[] {14, 15, 16}) due.is(BAD, x.textTold(t, 0), "no text behind the last");
    }

    private static void textTold() {
        due.promise(28);
        DuelLetters x = new DuelLetters();
        Due.tell(x, "fine 1");
        Due.tell(x, "fee l+l*(p-12)");
        Due.tell(x, "tone !(p|h)&s<0");
        int[][] rows = {{2, 1}, {1, 4}, {0, 4}};
        for (int i = 0; i < 3; i++) {
            due.is(rows[i][0], x.textTold(i, 0), "key of text " + i);
            due.is(rows[i][1], x.textTold(i, 1), "numbers and names of text " + i);
        }
        for (int t : new int[] {-1, 3, 14, MIN, MAX}) due.is(BAD, x.textTold(t, 0), "no text");
        for (int w : new int[] {-1, 2, MIN, MAX}) due.is(BAD, x.textTold(0, w), "no such thing");
    }

    private static void why() {
        due.promise(29);
        DuelLetters x = new DuelLetters();
        due.is(NONE, x.why(0), "why");
        Due.tell(x, "fine 1");
        Due.tell(x, "tone 1");
        Due.tell(x, "fine 2");
        due.is(1, x.why(0), "why tone");
        due.is(NONE, x.why(1), "why fee");
        due.is(2, x.why(2), "why fine");
        Due.tell(x, "fine (");
        due.is(2, x.why(2), "why fine behind a fault");
        for (int key : new int[] {-1, 3, MIN, MAX}) due.is(BAD, x.why(key), "no key");
    }
}
