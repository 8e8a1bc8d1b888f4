/** Part 4 of the document's terms and promises 25 to 29, sentence by sentence. */
final class EdgesOfTexts {
    private static final int BAD = Sentences.BAD, FULL = Sentences.FULL, NONE = Sentences.NONE, MIN = Sentences.MIN,
            MAX = Sentences.MAX, TERMS = Sentences.TERMS;
    private final Sentences s;

    EdgesOfTexts(Sentences s) {
        this.s = s;
    }

    void run() {
        textsAndTape();
        keys();
        loosestFirst();
        pieces();
        names();
        words();
        blanks();
        faults();
        open();
        theEnd();
        ints();
        counts();
        feed();
        trim();
        text();
        textTold();
        why();
    }

    /** Told by itself to a new object: the fault's place. */
    private void faultAt(int place, String text) {
        DuelLetters x = new DuelLetters();
        s.is(-100 - place, Due.tell(x, text), "'" + text + "'");
        s.is(0, x.count(5), "texts behind '" + text + "'");
    }

    private void valueIs(int want, String e) {
        DuelLetters x = new DuelLetters();
        s.is(0, Due.tell(x, "fee " + e), "text fee " + e);
        s.is(want, x.fee(), e);
    }

    private void textsAndTape() {
        s.says(TERMS, "TEXTS, 14 at most, numbered from 0,");
        DuelLetters x = new DuelLetters();
        for (int i = 0; i < 14; i++) s.is(i, Due.tell(x, "fee " + (100 + i)), "text " + i);
        s.is(FULL, Due.tell(x, "fee 7"), "a fifteenth");
        s.is(FULL, Due.tell(x, "tone 7"), "a fifteenth of another key");
        s.is(14, x.count(5), "texts");
        s.is(113, x.fee(), "the last that came");

        s.says(TERMS, "from THE TAPE (96 bytes at most; an act that reads it uses it up, whatever it answers): KEY E.");
        s.is(0, x.count(7), "used up by FULL");
        x = new DuelLetters();
        String longest = "fee 1" + "+1".repeat(45) + " ";
        s.is(96, longest.length(), "the longest tape");
        s.is(0, Due.tell(x, longest), "a text of 96 bytes");
        s.is(46, x.fee(), "a text of 96 bytes");
        s.is(0, x.count(7), "used up by a text");
        Due.feed(x, "fee ?");
        s.is(-104, x.text(), "a fault");
        s.is(0, x.count(7), "used up by a fault");
        s.is(-100, x.text(), "nothing is left to read");
        s.is(12, x.feed(0, 0, 0), "it begins anew");
        // and what a fault left open, or read last, does not count for the next text
        String[] wrongs = {"fee abc", "fee 1 2", "fee 12345", "fee l1", "fee ((((((((", "fee !!!!!!!!", "fee (1+", "?", "tone p"};
        for (String wrong : wrongs) {
            Due.tell(x, wrong);
            int texts = x.count(5);
            s.is(texts, Due.tell(x, "fee((((((((!!!!!!!!l))))))))+2"), "a text behind '" + wrong + "'");
            s.is(2, x.fee(), "a text behind '" + wrong + "'");
        }
    }

    private void keys() {
        s.says(TERMS, "KEY: tone | fee | fine.");
        DuelLetters x = new DuelLetters();
        String[] keys = {"tone", "fee", "fine"};
        for (int key = 0; key < 3; key++) {
            s.is(key, Due.tell(x, keys[key] + " 1"), keys[key]);
            s.is(key, x.textTold(key, 0), "key of " + keys[key]);
        }
        for (String wrong : new String[] {"sone 1", "gee 1", "mine 1", "tonf 1", "fed 1", "finf 1", "ton 1", "tones 1", "tome 1", "fe 1", "fees 1", "fin 1", "fines 1", "fane 1", "f 1",
            "one 1", "TONE 1", "1 tone", "(tone 1)", "!tone 1", "p", "tonefee 1"}) {
            faultAt(0, wrong);
        }
    }

    private void loosestFirst() {
        s.says(TERMS, "E, the loosest first: OR: AND { | AND };");
        valueIs(1, "1|0&0");
        valueIs(1, "0&0|1");
        valueIs(0, "0|0|0");
        valueIs(1, "0|0|9");
        faultAt(6, "fee 1||1");
        faultAt(4, "fee |1");

        s.says(TERMS, "AND: TEST { & TEST };");
        valueIs(1, "1&2=2");
        valueIs(1, "2=2&1");
        valueIs(0, "1&1&0");
        valueIs(1, "1&1&3");
        faultAt(6, "fee 1&&1");
        faultAt(4, "fee &1");

        s.says(TERMS, "TEST: SUM [ (< | = | >) SUM ];");
        valueIs(1, "1+1=2");
        valueIs(1, "2=1+1");
        valueIs(1, "1<2");
        valueIs(1, "2>1");
        valueIs(1, "1<2&2>1");
        // no more than one of them
        for (String second : new String[] {"<", "=", ">"}) {
            for (String first : new String[] {"<", "=", ">"}) faultAt(7, "fee 1" + first + "2" + second + "3");
        }
        faultAt(6, "fee 1<=2");
        faultAt(4, "fee <2");

        s.says(TERMS, "SUM: TERM { (+ | -) TERM };");
        valueIs(7, "1+2*3");
        valueIs(5, "9-3-1");
        valueIs(7, "9-3+1");
        faultAt(4, "fee -1");
        faultAt(4, "fee +1");
        faultAt(6, "fee 1--1");

        s.says(TERMS, "TERM: PIECE { (* | /) PIECE };");
        valueIs(9, "9/2*2+1");
        valueIs(2, "16/4/2");
        valueIs(4, "2*6/3");
        valueIs(6, "!0*6");
        faultAt(4, "fee *1");
        faultAt(6, "fee 1*/1");
    }

    private void pieces() {
        s.says(TERMS, "PIECE: NUMBER (1 to 4 digits) | NAME | ! PIECE | ( E ).");
        valueIs(0, "0");
        valueIs(9, "9");
        valueIs(99, "99");
        valueIs(999, "999");
        valueIs(9999, "9999");
        valueIs(1, "0001");
        faultAt(4, "fee 10000");
        faultAt(4, "fee 00000");
        valueIs(0, "l");
        valueIs(1, "!l");
        valueIs(0, "!!l");
        valueIs(3, "(3)");
        valueIs(9, "(1+2)*3");
        valueIs(1, "(0|1)");
        valueIs(0, "!(0|1)");
        valueIs(1, "!(2<1)");
        valueIs(2, "(1<2)+(3>2)");
        faultAt(5, "fee ()");
        faultAt(5, "fee !)");
        faultAt(5, "fee !+1");
        faultAt(6, "fee (1");
        faultAt(5, "fee 1)");
        faultAt(7, "fee (1))");
        faultAt(5, "fee 1(2)");
        faultAt(5, "fee 1!2");
    }

    private void names() {
        DuelLetters x = Sentences.withoutLoss();
        x.friend(0, 0, 31);
        x.friend(0, 1, 32);
        x.honour(0, 400);
        x.rule(0, 20);
        x.posts(3);
        s.says(TERMS, "NAMES, each one letter: of tone p PRIDE, h HEAT, s SENT;");
        String[] tones = {"p", "h", "s"};
        int[][] gives = {{31, 14, 3}, {32, 14, 3}};
        for (int i = 0; i < 3; i++) {
            Due.tell(x, "tone " + tones[i]);
            for (int f = 0; f < 2; f++) s.is(gives[f][i], x.told(f, 5), "tone " + tones[i] + " of " + f);
        }
        for (char c = 'a'; c <= 'z'; c++) if ("phs".indexOf(c) < 0) faultAt(5, "tone " + c);
        faultAt(5, "tone pp");
        faultAt(5, "tone ph");

        s.says(TERMS, "of fee l LOST, p THE POST (what fee gives is told by fee(); without a TEXT: LOST);");
        x.rule(2, 100);
        x.posts(2);
        s.is(4, x.fee(), "without a text");
        Due.tell(x, "fee l");
        s.is(4, x.fee(), "fee l");
        Due.tell(x, "fee p");
        s.is(5, x.fee(), "fee p");
        for (char c = 'a'; c <= 'z'; c++) if ("lp".indexOf(c) < 0) faultAt(4, "fee " + c);

        s.says(TERMS, "of fine y YIELDED, n SENT (what fine gives for a FRIEND is told by fine(); without a TEXT: YIELDED).");
        s.is(3, x.fine(1), "without a text");
        Due.tell(x, "fine y");
        s.is(3, x.fine(1), "fine y");
        Due.tell(x, "fine n");
        s.is(5, x.fine(1), "fine n");
        for (char c = 'a'; c <= 'z'; c++) if ("yn".indexOf(c) < 0) faultAt(5, "fine " + c);
    }

    private void words() {
        s.says(TERMS, "A word is a row of letters a .. z, or of digits, as long as it goes; any other byte is a sign by itself.");
        // what stands right outside a .. z and 0 .. 9 is a sign, behind which a new word begins
        faultAt(0, "tonea 1");
        faultAt(0, "tonez 1");
        faultAt(4, "tone{1");
        faultAt(4, "tone`1");
        faultAt(4, "toneA");
        faultAt(4, "toneZ");
        faultAt(5, "fee 1:1");
        valueIs(2, "8/4");
        valueIs(90, "90");
        for (int b = 0; b < 256; b++) {
            char c = (char) b;
            boolean inWord = c >= 'a' && c <= 'z' || c >= '0' && c <= '9';
            if (inWord || " +-*/<=>&|".indexOf(c) >= 0) continue;
            faultAt(6, "fee 1 " + c + "1");
            if (c != '(' && c != '!') faultAt(4, "fee " + c + "1");
        }
        valueIs(3, "(1)+(2)");
        valueIs(1, "!!!l");
    }

    private void blanks() {
        s.says(TERMS, "Between words and signs, and at the ends, there may be blanks (byte 32); "
                + "a word right behind another one needs one.");
        DuelLetters x = new DuelLetters();
        s.is(0, Due.tell(x, "   fee   (   1   +   2   )   *   3   "), "blanks anywhere");
        s.is(9, x.fee(), "blanks anywhere");
        s.is(1, Due.tell(x, "fee((1+2)*4)"), "no blanks");
        s.is(12, x.fee(), "no blanks");
        s.is(2, Due.tell(x, "fee!l"), "no blank between a word and a sign");
        s.is(3, Due.tell(x, "fee 1" + " ".repeat(91)), "blanks at the end");
        s.is(4, Due.tell(x, " ".repeat(91) + "fee 2"), "blanks ahead");
        s.is(2, x.fee(), "blanks ahead");
        s.is(5, Due.tell(x, "fee ! ! ! 0"), "blanks between signs");
        // a blank parts a word in two
        faultAt(0, "to ne 1");
        faultAt(6, "fee 1 2");
        for (char c : new char[] {9, 10, 13, 0, 31, 160, 255}) {
            faultAt(0, c + "fee 1");
            faultAt(3, "fee" + c + "1");
            faultAt(5, "fee 1" + c);
        }
        faultAt(3, "fee1");
        faultAt(5, "fee 1l");
        faultAt(5, "fee l1");
    }

    private void faults() {
        s.says(TERMS, "FAULT: the first byte of the first word or sign with which no TEXT goes on");
        faultAt(0, "abc def");
        faultAt(3, "   abc");
        faultAt(4, "fee abc");
        faultAt(7, "fee    abc ?");
        faultAt(7, "fee 1+ ?? ??");
        faultAt(6, "fee 1+fee");
        faultAt(95, "fee 1" + " ".repeat(90) + "?");
        faultAt(95, "fee 1" + "+1".repeat(45) + "?");
        faultAt(95, "fee 1" + "+1".repeat(45) + ")");

        s.says(TERMS, "(a word that needs a blank ahead of it,");
        faultAt(4, "tone1");
        faultAt(4, "tone1+1");
        faultAt(6, "tone 1p");
        faultAt(9, "tone 9999p");
        faultAt(6, "tone p1");
        faultAt(9, "tone p+(p1)");
        faultAt(6, "tone p12345");
        faultAt(3, "fee12345");

        s.says(TERMS, "a NUMBER of more than 4 digits,");
        faultAt(4, "fee 12345");
        faultAt(6, "fee 1+12345");
        faultAt(5, "fee (00001)");
        faultAt(9, "fee 1234+123456789");
        faultAt(4, "fee 12345p");
        valueIs(1235, "1234+1");
    }

    private void open() {
        s.says(TERMS, "the ninth ( that would be open within others,");
        valueIs(5, "((((((((5))))))))");
        faultAt(12, "fee (((((((((5)))))))))");
        faultAt(12, "fee (((((((((");
        faultAt(20, "fee ( ( ( ( ( ( ( ( ( 1");
        // closed ones are not open any more
        valueIs(2, "((((((((1))))))))+((((((((1))))))))");
        valueIs(3, "(((((((1+(2))))))))");
        valueIs(3, "(((((((1)+(1)+(1)))))))");
        faultAt(16, "fee (((((((1)+((((1");
        valueIs(9, "(1)+(1)+(1)+(1)+(1)+(1)+(1)+(1)+(1)");

        s.says(TERMS, "the ninth ! likewise, each by itself);");
        valueIs(1, "!!!!!!!!5");
        faultAt(12, "fee !!!!!!!!!5");
        faultAt(12, "fee !!!!!!!!!");
        valueIs(2, "!!!!!!!!5+!!!!!!!!5");
        valueIs(9, "!0+!0+!0+!0+!0+!0+!0+!0+!0");
        // eight of each may be open at once, in whatever order
        valueIs(1, "!(!(!(!(!(!(!(!(7))))))))");
        valueIs(1, "((((((((!!!!!!!!7))))))))");
        valueIs(1, "!!!!!!!!((((((((7))))))))");
        faultAt(20, "fee ((((((((!!!!!!!!(");
        faultAt(20, "fee ((((((((!!!!!!!!!");
        faultAt(20, "fee !!!!!!!!((((((((!");
        faultAt(20, "fee !!!!!!!!(((((((((");
        faultAt(20, "fee !(!(!(!(!(!(!(!(!");
        faultAt(20, "fee !(!(!(!(!(!(!(!((");
    }

    private void theEnd() {
        s.says(TERMS, "the end (the place behind the last byte), if it comes too soon.");
        faultAt(0, "");
        faultAt(1, " ");
        faultAt(96, " ".repeat(96));
        faultAt(3, "fee");
        faultAt(4, "fee ");
        faultAt(96, "fee" + " ".repeat(93));
        for (String sign : new String[] {"+", "-", "*", "/", "<", "=", ">", "&", "|"}) {
            faultAt(6, "fee 1" + sign);
            faultAt(8, "fee 1" + sign + "  ");
        }
        faultAt(5, "fee !");
        faultAt(5, "fee (");
        faultAt(6, "fee (1");
        faultAt(7, "fee ((1");
        faultAt(8, "fee ((1)");
        faultAt(96, "fee (1" + "+1".repeat(45));
    }

    private void ints() {
        s.says(TERMS, "Ints wrap; / is 0 by 0;");
        valueIs((int) (9999L * 9999 * 9999), "9999*9999*9999");
        valueIs(MIN, "4096*4096*128");
        valueIs(MAX, "4096*4096*128-1");
        valueIs(MIN, "4096*4096*128-1+1");
        valueIs(0, "4096*4096*128*2");
        valueIs(MIN, "4096*4096*128/(0-1)");
        valueIs(0, "5/0");
        valueIs(0, "0/0");
        valueIs(0, "(0-5)/0");
        valueIs(0, "5/l");
        valueIs(6, "5/0*3+6");
        valueIs(0, "4096*4096*128/0");

        s.says(TERMS, "tests, & | ! give 1 or 0 (what is not 0 is true; both sides are worked out).");
        String[] tests = {"<", "=", ">"};
        int[][] rows = {{1, 2, 1, 0, 0}, {2, 2, 0, 1, 0}, {3, 2, 0, 0, 1}};
        for (int[] r : rows) {
            for (int i = 0; i < 3; i++) valueIs(r[i + 2], r[0] + tests[i] + r[1]);
        }
        valueIs(1, "0-2<0-1");
        valueIs(1, "4096*4096*128<0");
        valueIs(1, "2&4");
        valueIs(1, "(0-1)&1");
        valueIs(0, "2&0");
        valueIs(0, "0&2");
        valueIs(1, "8|0");
        valueIs(1, "0|8");
        valueIs(1, "8|8");
        valueIs(1, "0|0-1");
        valueIs(0, "0|0");
        valueIs(0, "!9");
        valueIs(0, "!(0-1)");
        valueIs(1, "!0");
        valueIs(0, "0&7/0");
        valueIs(1, "1|7/0");
        DuelLetters x = new DuelLetters();
        Due.tell(x, "fee 0&l|p&l");
        s.is(4, x.textTold(0, 1), "sides that cannot matter are told too");
    }

    private void counts() {
        s.says(TERMS, "Of a KEY that TEXT counts that was told last.");
        DuelLetters x = new DuelLetters();
        Due.tell(x, "fee 11");
        s.is(11, x.fee(), "the first");
        Due.tell(x, "fee 22");
        s.is(22, x.fee(), "the second");
        Due.tell(x, "fine 33");
        Due.tell(x, "tone 44");
        s.is(22, x.fee(), "texts of other keys");
        Due.tell(x, "fee (");
        s.is(22, x.fee(), "a fault");
        s.is(1, x.why(1), "the second");
        x.keep();
        Due.tell(x, "fee 55");
        s.is(55, x.fee(), "the last");
        x.back();
        s.is(22, x.fee(), "the last of the image");
        Due.tell(x, "fee 66");
        s.is(66, x.fee(), "told again");
        s.is(4, x.why(1), "its number");
    }

    private void feed() {
        s.says(25, "Twelve bytes come to THE TAPE, the highest of each number first: how many it has.");
        DuelLetters x = new DuelLetters();
        // "fee 1234+567": three numbers of four bytes
        s.is(12, x.feed(0x66656520, 0x31323334, 0x2b353637), "feed");
        s.is(12, x.count(7), "bytes");
        s.is(0, x.text(), "fee 1234+567");
        s.is(1801, x.fee(), "fee 1234+567");
        // a number below 0: bytes of 128 and more are signs
        s.is(12, x.feed(0x66656520, 0x312080ff, -1), "feed");
        s.is(-106, x.text(), "byte 128");
        s.is(12, x.feed(0x66656520, 0xff202020, 0), "feed");
        s.is(-104, x.text(), "byte 255");

        s.says(25, "FULL: it would have more than 96.");
        for (int i = 1; i <= 8; i++) s.is(12 * i, x.feed(i, -i, MIN), "feed " + i);
        s.is(FULL, x.feed(0, 0, 0), "it has 96");
        s.is(96, x.count(7), "bytes behind a refusal");
        for (int n : new int[] {95, 90, 85}) {
            x.trim(n);
            s.is(FULL, x.feed(0, 0, 0), "it has " + n);
            s.is(n, x.count(7), "bytes behind a refusal");
        }
        x.trim(84);
        s.is(96, x.feed(0, 0, 0), "it has 84");
    }

    private void trim() {
        s.says(26, "THE TAPE keeps its first n bytes: n.");
        DuelLetters x = new DuelLetters();
        s.is(0, x.trim(0), "an empty tape");
        x.feed(0x66656520, 0x31323334, 0x35363738);
        s.is(12, x.trim(12), "all");
        s.is(8, x.trim(8), "some");
        s.is(8, x.count(7), "bytes");
        s.is(0, x.text(), "fee 1234");
        s.is(1234, x.fee(), "the first bytes");
        x.feed(0x66656520, 0x31323334, 0x35363738);
        s.is(0, x.trim(0), "none");
        s.is(0, x.count(7), "none");
        s.is(-100, x.text(), "none");

        s.says(26, "BAD.");
        s.is(BAD, x.trim(1), "an empty tape");
        x.feed(0, 0, 0);
        for (int n : new int[] {-1, 13, 96, 97, MIN, MAX}) s.is(BAD, x.trim(n), "trim(" + n + ") of 12");
        s.is(12, x.count(7), "bytes behind refusals");
        x.trim(5);
        s.is(BAD, x.trim(6), "what was cut off");
        s.is(5, x.trim(5), "what it has");
    }

    private void text() {
        s.says(27, "THE TAPE is a TEXT: its number.");
        DuelLetters x = new DuelLetters();
        for (int i = 0; i < 3; i++) s.is(i, Due.tell(x, "fee " + i), "its number");
        Due.tell(x, "fee");
        s.is(3, Due.tell(x, "fee 3"), "a fault takes no number");

        s.says(27, "-100 less the place of its FAULT; FULL.");
        s.is(-100, Due.tell(x, "?"), "at 0");
        s.is(-196, Due.tell(x, "fee" + " ".repeat(93)), "at 96");
        for (int i = 4; i < 14; i++) Due.tell(x, "fine " + i);
        s.is(-104, Due.tell(x, "fee ?"), "a fault stands ahead of FULL");
        s.is(-100, x.text(), "a fault stands ahead of FULL, an empty tape too");
        s.is(FULL, Due.tell(x, "fee 1"), "FULL");
        s.is(3, x.fee(), "behind refusals");
        s.is(14, x.count(5), "behind refusals");
        s.is(3, x.why(1), "behind refusals");
    }

    private void textTold() {
        s.says(28, "Of a TEXT: what 0 KEY (0 tone, 1 fee, 2 fine), 1 how many NUMBERS and NAMES it has.");
        DuelLetters x = new DuelLetters();
        String[] texts = {"fine 1", "tone p", "fee l+l", "tone !(p&12|h)<s", "fee 1" + "+1".repeat(45), "fine ((((y))))"};
        int[][] told = {{2, 1}, {0, 1}, {1, 2}, {0, 4}, {1, 46}, {2, 1}};
        for (String t : texts) Due.tell(x, t);
        for (int i = 0; i < texts.length; i++) {
            s.is(told[i][0], x.textTold(i, 0), "key of '" + texts[i] + "'");
            s.is(told[i][1], x.textTold(i, 1), "numbers and names of '" + texts[i] + "'");
        }

        s.says(28, "BAD.");
        for (int t : new int[] {-1, 6, 13, 14, 15, MIN, MAX}) {
            s.is(BAD, x.textTold(t, 0), "no text");
            s.is(BAD, x.textTold(t, 1), "no text");
        }
        for (int what : new int[] {-1, 2, MIN, MAX}) s.is(BAD, x.textTold(0, what), "no such thing");
        x = new DuelLetters();
        x.keep();
        Due.tell(x, "fee 1");
        x.back();
        s.is(BAD, x.textTold(0, 0), "a text that is gone with the image");
        for (int i = 0; i < 14; i++) Due.tell(x, "fine 1");
        s.is(2, x.textTold(13, 0), "the last text");
        s.is(BAD, x.textTold(14, 0), "behind the last text");
    }

    private void why() {
        s.says(29, "The TEXT that counts for a KEY.");
        DuelLetters x = new DuelLetters();
        for (int i = 0; i < 14; i++) {
            Due.tell(x, new String[] {"tone 1", "fee 1", "fine 1"}[i % 3]);
            s.is(i, x.why(i % 3), "the last told");
        }
        s.is(12, x.why(0), "tone");
        s.is(13, x.why(1), "fee");
        s.is(11, x.why(2), "fine");

        s.says(29, "BAD; NONE.");
        x = new DuelLetters();
        for (int key = 0; key < 3; key++) s.is(NONE, x.why(key), "no text");
        Due.tell(x, "fee 1");
        s.is(NONE, x.why(0), "no text of tone");
        s.is(0, x.why(1), "text 0 is one");
        s.is(NONE, x.why(2), "no text of fine");
        for (int key : new int[] {-1, 3, MIN, MAX}) s.is(BAD, x.why(key), "why(" + key + ")");
    }
}
