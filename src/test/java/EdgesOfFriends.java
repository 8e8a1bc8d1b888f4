/** Part 1 of the document's terms and promises 1 to 12, sentence by sentence. */
final class EdgesOfFriends {
    private static final int BAD = Sentences.BAD, FULL = Sentences.FULL, NO = Sentences.NO, NONE = Sentences.NONE,
            KIND = Sentences.KIND, NOTHING = Sentences.NOTHING, MIN = Sentences.MIN, MAX = Sentences.MAX,
            TERMS = Sentences.TERMS;
    private final Sentences s;

    EdgesOfFriends(Sentences s) {
        this.s = s;
    }

    void run() {
        calls();
        numbers();
        stands();
        cares();
        rules();
        friends();
        kinds();
        tones();
        coolerTones();
        whichTerm();
        ofSeveral();
        worths();
        newObject();
        friend();
        told();
        as();
        turns();
        set();
        stand();
        care();
        honour();
        rule();
        deal();
        seed();
    }

    private void calls() {
        s.says(Sentences.WHAT_IT_IS, "An object is used for at most 512 calls after it has been made");
        DuelLetters x = new DuelLetters();
        for (int i = 0; i < 8; i++) x.friend(i % 6, i % 2, i);
        for (int i = 8; i < 510; i++) x.seed(i);
        s.is(509, x.seed(1), "the 511th call");
        s.is(8, x.count(0), "the 512th call");
    }

    private void numbers() {
        s.says(TERMS, "All numbers are whole; / cuts towards 0.");
        DuelLetters x = new DuelLetters();
        Due.tell(x, "fee (0-7)/2");
        s.is(-3, x.fee(), "-7 / 2");
        Due.tell(x, "fee 7/(0-2)");
        s.is(-3, x.fee(), "7 / -2");
        Due.tell(x, "fee (0-7)/(0-2)");
        s.is(3, x.fee(), "-7 / -2");
        Due.tell(x, "fee (0-1)/2");
        s.is(0, x.fee(), "-1 / 2");

        s.says(TERMS, "NONE: there is none.");
        s.is(NONE, x.why(0), "no text for a key");
        s.is(NONE, x.bought(1, 0), "no friend");
        s.is(NONE, x.terms(0), "no way");
        s.is(NONE, x.ends(0), "no end");

        s.says(TERMS, "Sets of FRIENDS are told by bits.");
        // seven bribed ones take term 0 from 7 to 0, the one of side 1 gives a step of it back: side 1 has 20, else 21
        for (int who = 0; who < 8; who++) {
            DuelLetters y = Sentences.withoutLoss();
            for (int i = 0; i < 8; i++) y.friend(5, i == who ? 1 : 0, 0);
            y.stand(0, 7);
            y.honour(0, 15);
            y.honour(1, 21);
            s.is(1 << who, y.held(1), "the set of friend " + who);
            y.honour(1, 22);
            s.is(0, y.held(1), "the set without friends");
        }
    }

    private void stands() {
        s.says(TERMS, "TERMS 0 .. 3, each at a STAND 0 .. 9");
        DuelLetters x = new DuelLetters();
        for (int t = 0; t < 4; t++) {
            s.is(5, x.stand(t, 0), "the least stand of term " + t);
            s.is(BAD, x.stand(t, -1), "a stand too small");
            s.is(0, x.stand(t, 9), "the greatest stand of term " + t);
            s.is(BAD, x.stand(t, 10), "a stand too large");
        }
        s.is(9999, x.table(3), "four terms at their greatest");
        s.is(BAD, x.stand(-1, 5), "a term too small");
        s.is(BAD, x.stand(4, 5), "a term too large");

        s.says(TERMS, "(9 is best for SIDE 0, 0 for SIDE 1; 5 at first).");
        s.is(5555, new DuelLetters().table(3), "stands at first");
        s.is(36, x.table(0), "side 0 at stands of 9");
        s.is(0, x.table(1), "side 1 at stands of 9");
        for (int t = 0; t < 4; t++) x.stand(t, 0);
        s.is(0, x.table(0), "side 0 at stands of 0");
        s.is(36, x.table(1), "side 1 at stands of 0");
    }

    private void cares() {
        s.says(TERMS, "CARE of a SIDE for a TERM 0 .. 9 (1 at first).");
        DuelLetters x = new DuelLetters();
        for (int side = 0; side < 2; side++) {
            for (int t = 0; t < 4; t++) {
                s.is(1, x.care(side, t, 0), "care at first");
                s.is(BAD, x.care(side, t, -1), "a care too small");
                s.is(0, x.care(side, t, 9), "the least care");
                s.is(BAD, x.care(side, t, 10), "a care too large");
                s.is(9, x.care(side, t, 9), "the greatest care");
            }
        }

        s.says(TERMS, "HONOUR of a SIDE 0 .. 400 (20 at first).");
        for (int side = 0; side < 2; side++) {
            s.is(20, x.honour(side, 0), "honour at first");
            s.is(BAD, x.honour(side, -1), "an honour too small");
            s.is(0, x.honour(side, 400), "the least honour");
            s.is(BAD, x.honour(side, 401), "an honour too large");
            s.is(400, x.honour(side, 0), "the greatest honour");
        }

        s.says(TERMS, "HAS of SIDE 0: CARES times STANDS, together; of SIDE 1: CARES times 9 less STANDS, together.");
        for (int t = 0; t < 4; t++) x.stand(t, 9);
        s.is(324, x.table(0), "the most that side 0 can have");
        s.is(0, x.table(1), "the least that side 1 can have");
        for (int t = 0; t < 4; t++) x.stand(t, 0);
        s.is(0, x.table(0), "the least that side 0 can have");
        s.is(324, x.table(1), "the most that side 1 can have");
        for (int t = 0; t < 4; t++) {
            x.care(0, t, t + 1);
            x.care(1, t, 8 - t);
            x.stand(t, 2 * t + 1);
        }
        s.is(1 + 6 + 15 + 28, x.table(0), "cares 1 2 3 4 times stands 1 3 5 7");
        s.is(64 + 42 + 24 + 10, x.table(1), "cares 8 7 6 5 times 8 6 4 2");

        s.says(TERMS, "PEACE: if each SIDE HAS its HONOUR at least.");
        x.honour(0, 50);
        x.honour(1, 140);
        s.is(1, x.table(2), "each has just its honour");
        x.honour(0, 51);
        s.is(0, x.table(2), "side 0 has 1 too little");
        x.honour(0, 50);
        x.honour(1, 141);
        s.is(0, x.table(2), "side 1 has 1 too little");
        x.honour(0, 0);
        x.honour(1, 139);
        s.is(1, x.table(2), "both have more");
        for (int t = 0; t < 4; t++) x.stand(t, 0);
        s.is(1, x.table(2), "side 0 has nothing and wants nothing");
    }

    private void rules() {
        s.says(TERMS, "HEAT 0 .. 99 (0 at first), DUEL 1 .. 99 (60 at first), LOSS 0 .. 100 (10).");
        DuelLetters x = new DuelLetters();
        int[][] bounds = {{0, 0, 99, 0}, {1, 1, 99, 60}, {2, 0, 100, 10}};
        for (int[] b : bounds) {
            s.is(b[3], x.rule(b[0], b[1]), "rule " + b[0] + " at first");
            s.is(BAD, x.rule(b[0], b[1] - 1), "rule " + b[0] + " too small");
            s.is(b[1], x.rule(b[0], b[2]), "the least of rule " + b[0]);
            s.is(BAD, x.rule(b[0], b[2] + 1), "rule " + b[0] + " too large");
            s.is(b[2], x.count(2 + b[0]), "the greatest of rule " + b[0]);
        }

        s.says(TERMS, "LOST (letters; 0).");
        x = new DuelLetters();
        s.is(0, x.table(4), "lost at first");
        for (int i = 0; i < 3; i++) x.friend(0, 0, 0);
        x.rule(2, 100);
        x.posts(2);
        s.is(6, x.table(4), "three letters a post, two posts");

        s.says(TERMS, "THE POST is 0 at first, 9999 at most.");
        x = new DuelLetters();
        s.is(0, x.count(1), "the post at first");
        Sentences.goToPost(x, 9900);
        s.is(0, x.posts(100), "a hundred posts from 9900 on");
        s.is(9999, x.count(1), "the last post");
        s.is(0, x.posts(1), "one more");
        s.is(9999, x.count(1), "the last post still");
    }

    private void friends() {
        s.says(TERMS, "FRIENDS, 8 at most, numbered from 0:");
        DuelLetters x = new DuelLetters();
        for (int i = 0; i < 8; i++) s.is(i, x.friend(0, 0, 10 + i), "friend " + i);
        s.is(FULL, x.friend(0, 0, 18), "a ninth");
        s.is(17, x.told(7, 2), "the eighth");
        s.is(BAD, x.told(8, 2), "there is no ninth");

        s.says(TERMS, "SIDE 0 or 1, PRIDE 0 .. 99, SENT (letters; 0), YIELDED (0),");
        x = new DuelLetters();
        s.is(BAD, x.friend(0, -1, 0), "a side too small");
        s.is(BAD, x.friend(0, 2, 0), "a side too large");
        s.is(BAD, x.friend(0, 0, -1), "a pride too small");
        s.is(BAD, x.friend(0, 0, 100), "a pride too large");
        s.is(0, x.friend(0, 0, 0), "the least side and pride");
        s.is(1, x.friend(0, 1, 99), "the greatest side and pride");
        for (int f = 0; f < 2; f++) {
            s.is(f, x.told(f, 1), "side");
            s.is(99 * f, x.told(f, 2), "pride");
            s.is(0, x.told(f, 3), "sent at first");
            s.is(0, x.told(f, 4), "yielded at first");
        }
    }

    private void kinds() {
        s.says(TERMS, "and of KINDS: 0 FRIEND; 1 HOT, 2 LAZY, 5 BRIBED, under FRIEND; 3 SECRET, under HOT; "
                + "4 WISE, under LAZY (all are FRIENDS).");
        DuelLetters x = Sentences.sixKinds(0, 23);
        String[] of = {"0", "01", "02", "013", "024", "05"};
        for (int f = 0; f < 6; f++) {
            for (int kind = 0; kind < 6; kind++) {
                boolean is = of[f].indexOf('0' + kind) >= 0;
                s.is(is ? 23 : KIND, x.as(f, kind), "kind " + f + " as " + kind);
            }
        }
        s.is(BAD, x.friend(-1, 0, 0), "a kind too small");
        s.is(BAD, x.friend(6, 0, 0), "a kind too large");
    }

    /** The tone of a friend of a kind, if tone gives so much. */
    private static int toneBy(int kind, String text) {
        DuelLetters x = new DuelLetters();
        x.friend(kind, 0, 0);
        Due.tell(x, "tone " + text);
        return x.told(0, 5);
    }

    private static int toneWithoutText(int kind, int pride, int heat) {
        DuelLetters x = new DuelLetters();
        x.friend(kind, 0, pride);
        x.rule(0, heat);
        return x.told(0, 5);
    }

    private void tones() {
        s.says(TERMS, "TONE: FRIEND: what tone gives, held within 0 .. 99");
        String[] texts = {"98", "99", "100", "9999", "4096*4096*128-1", "1", "0", "0-1", "4096*4096*128"};
        int[] held = {98, 99, 99, 99, 99, 1, 0, 0, 0};
        for (int i = 0; i < texts.length; i++) s.is(held[i], toneBy(0, texts[i]), "tone " + texts[i]);

        s.says(TERMS, "(without a TEXT: the middle (cut) of PRIDE and HEAT).");
        int[][] middles = {{0, 0, 0}, {1, 0, 0}, {0, 1, 0}, {1, 1, 1}, {99, 98, 98}, {98, 99, 98}, {99, 99, 99}, {99, 0, 49}};
        for (int[] m : middles) s.is(m[2], toneWithoutText(0, m[0], m[1]), "the middle of " + m[0] + " and " + m[1]);

        s.says(TERMS, "HOT: as FRIEND, and 20 (99 at most).");
        int[][] hot = {{0, 20}, {29, 49}, {78, 98}, {79, 99}, {80, 99}, {99, 99}, {200, 99}};
        for (int[] h : hot) s.is(h[1], toneBy(1, "" + h[0]), "a hot one by " + h[0]);
        s.is(20, toneBy(1, "0-5"), "held ahead of the 20");
        s.is(69, toneWithoutText(1, 99, 0), "a hot one without a text");

        s.says(TERMS, "SECRET: as HOT, but 0, if HEAT is 40 or more.");
        s.is(69, toneWithoutText(3, 60, 39), "heat 39");
        s.is(0, toneWithoutText(3, 60, 40), "heat 40");
        s.is(0, toneWithoutText(3, 99, 99), "heat 99");
        s.is(99, toneBy(3, "99"), "as a hot one by 99");
    }

    private void coolerTones() {
        s.says(TERMS, "LAZY: half (cut) of as FRIEND.");
        int[][] lazy = {{0, 0}, {1, 0}, {2, 1}, {98, 49}, {99, 49}, {101, 49}};
        for (int[] l : lazy) s.is(l[1], toneBy(2, "" + l[0]), "a lazy one by " + l[0]);
        s.is(0, toneBy(2, "0-9"), "a lazy one by -9");

        s.says(TERMS, "WISE: as LAZY, less 10 (0 at least).");
        int[][] wise = {{0, 0}, {19, 0}, {21, 0}, {22, 1}, {23, 1}, {99, 39}, {500, 39}};
        for (int[] w : wise) s.is(w[1], toneBy(4, "" + w[0]), "a wise one by " + w[0]);

        s.says(TERMS, "BRIBED: 0.");
        s.is(0, toneBy(5, "99"), "a bribed one by 99");
        s.is(0, toneWithoutText(5, 99, 99), "a bribed one without a text");

        s.says(TERMS, "A letter RAISES, if its TONE is 50 or more, else it YIELDS.");
        int[] tones = {0, 49, 50, 51, 99};
        for (int tone : tones) {
            DuelLetters x = Sentences.withoutLoss();
            x.friend(0, 0, 0);
            x.rule(0, 20);
            Due.tell(x, "tone " + tone);
            boolean raises = tone >= 50;
            s.is(raises ? 0 : 1, x.posts(1), "yielded by tone " + tone);
            s.is(raises ? 25 : 19, x.count(2), "heat by tone " + tone);
            s.is(raises ? 5555 : 4555, x.table(3), "stands by tone " + tone);
        }
    }

    private static int termOf(int kind, int side, int[] own, int[] other, int stands) {
        DuelLetters x = new DuelLetters();
        x.friend(kind, side, 50);
        for (int t = 0, by = 1000; t < 4; t++, by /= 10) {
            x.care(side, t, own[t]);
            x.care(1 - side, t, other[t]);
            x.stand(t, stands / by % 10);
        }
        return x.told(0, 6);
    }

    private void whichTerm() {
        int[] own = {4, 0, 9, 3}, other = {6, 8, 5, 0}, same = {4, 4, 4, 4};
        s.says(TERMS, "YIELDS which TERM (of those that can: STAND above 0 for SIDE 0, below 9 for SIDE 1):");
        for (int kind = 0; kind < 6; kind++) {
            s.is(3, termOf(kind, 0, own, other, 1), "stand 1 can be yielded by side 0");
            s.is(NONE, termOf(kind, 0, own, other, 0), "stands of 0 cannot");
            s.is(2, termOf(kind, 0, own, other, 90), "stand 9 can be yielded by side 0");
            s.is(3, termOf(kind, 1, own, other, 9998), "stand 8 can be yielded by side 1");
            s.is(NONE, termOf(kind, 1, own, other, 9999), "stands of 9 cannot");
            s.is(1, termOf(kind, 1, own, other, 9099), "stand 0 can be yielded by side 1");
        }

        String[] words = {"FRIEND: the one for which its SIDE has the least CARE.",
            "HOT: as FRIEND, but the one for which the other SIDE has the least.", "LAZY: as FRIEND.", "(SECRET as HOT.)",
            "WISE: the one for which the other SIDE has the greatest CARE.",
            "BRIBED: the one for which its SIDE has the greatest."};
        int[] terms = {1, 3, 1, 3, 1, 2};
        // without the term that each would take: the next one
        int[] seconds = {3, 2, 3, 2, 0, 0};
        int[] stuck = {100, 1, 100, 1, 100, 10};
        for (int kind = 0; kind < 6; kind++) {
            s.says(TERMS, words[kind]);
            for (int side = 0; side < 2; side++) {
                s.is(terms[kind], termOf(kind, side, own, other, 5555), "kind " + kind + " of side " + side);
                int stands = side == 0 ? 5555 - 5 * stuck[kind] : 5555 + 4 * stuck[kind];
                s.is(seconds[kind], termOf(kind, side, own, other, stands), "kind " + kind + ", its term is stuck");
                s.is(0, termOf(kind, side, same, same, 5555), "kind " + kind + " without a difference");
            }
        }
    }

    private void ofSeveral() {
        s.says(TERMS, "Of several the least TERM.");
        int[] own = {9, 2, 2, 9}, other = {7, 1, 7, 1};
        int[] terms = {1, 1, 1, 1, 0, 0};
        int[] secondTerms = {2, 3, 2, 3, 2, 3};
        int[] firstStuck = {5055, 5055, 5055, 5055, 555, 555};
        for (int kind = 0; kind < 6; kind++) {
            s.is(terms[kind], termOf(kind, 0, own, other, 5555), "kind " + kind + " of two alike");
            s.is(secondTerms[kind], termOf(kind, 0, own, other, firstStuck[kind]), "kind " + kind + ", the other of the two");
        }

        s.says(TERMS, "(A KIND that is not named does as the one above it.)");
        for (int tone = 0; tone < 100; tone += 33) {
            s.is(toneBy(1, "" + tone), toneBy(3, "" + tone), "a secret one below heat 40");
        }
        s.is(termOf(1, 0, own, other, 5555), termOf(3, 0, own, other, 5555), "a secret one's term");
    }

    private void worths() {
        String[] words = {"WORTH: FRIEND: PRIDE.", "HOT: as FRIEND, and 4.", "LAZY: 99 less PRIDE.", "SECRET: twice as HOT.",
            "WISE: as LAZY, less 9.", "BRIBED: 7."};
        int[][] worths = {{0, 50, 99}, {4, 54, 103}, {99, 49, 0}, {8, 108, 206}, {90, 40, -9}, {7, 7, 7}};
        int[] prides = {0, 50, 99};
        for (int kind = 0; kind < 6; kind++) {
            s.says(TERMS, words[kind]);
            for (int i = 0; i < 3; i++) {
                DuelLetters x = new DuelLetters();
                x.friend(kind, 1, prides[i]);
                s.is(worths[kind][i], x.told(0, 7), "worth of kind " + kind + " with pride " + prides[i]);
            }
        }
    }

    private void newObject() {
        s.says(1, "As told; no FRIENDS.");
        DuelLetters x = new DuelLetters();
        int[] counts = {0, 0, 0, 60, 10, 0, 0, 0, 1};
        for (int i = 0; i < 9; i++) s.is(counts[i], x.count(i), "count(" + i + ") at first");
        int[] table = {20, 16, 0, 5555, 0, 0, 0};
        for (int i = 0; i < 7; i++) s.is(table[i], x.table(i), "table(" + i + ") at first");
        for (int i = 0; i < 4; i++) s.is(NOTHING, x.mark(i, 0, 0), "sheet " + i + " at first");
        for (int i = 0; i < 5; i++) s.is(0, x.lay(i, 0, 0), "slot " + i + " at first");
        for (int i = 0; i < 3; i++) s.is(NONE, x.why(i), "text of key " + i + " at first");
        s.is(BAD, x.told(0, 0), "friend 0 at first");
        s.is(BAD, x.textTold(0, 0), "text 0 at first");
        s.is(NO, x.back(), "the image at first");
        // what one object is does not hang on another one
        DuelLetters y = new DuelLetters();
        x.friend(1, 1, 1);
        x.keep();
        s.is(0, y.count(0), "another object's friends");
        s.is(NO, y.back(), "another object's image");
    }

    private void friend() {
        s.says(2, "One more FRIEND: its number.");
        DuelLetters x = new DuelLetters();
        s.is(0, x.friend(5, 1, 99), "the first");
        s.is(1, x.friend(0, 0, 0), "the second");
        s.is(5, x.told(0, 0), "kind of the first");
        s.is(0, x.told(1, 0), "kind of the second");
        s.is(2, x.count(0), "friends");

        s.says(2, "BAD; FULL.");
        int[][] bad = {{-1, 0, 0}, {6, 0, 0}, {MIN, 0, 0}, {MAX, 0, 0}, {0, -1, 0}, {0, 2, 0}, {0, MIN, 0}, {0, MAX, 0},
            {0, 0, -1}, {0, 0, 100}, {0, 0, MIN}, {0, 0, MAX}};
        for (int[] b : bad) s.is(BAD, x.friend(b[0], b[1], b[2]), "a wrong number");
        s.is(2, x.count(0), "friends behind refusals");
        for (int i = 2; i < 8; i++) x.friend(0, 0, 0);
        s.is(FULL, x.friend(5, 1, 99), "a ninth");
        for (int[] b : bad) s.is(BAD, x.friend(b[0], b[1], b[2]), "a wrong ninth: BAD stands first");
        s.is(8, x.count(0), "friends behind refusals");
    }

    private void told() {
        s.says(3, "Of a FRIEND: what 0 KIND, 1 SIDE, 2 PRIDE, 3 SENT, 4 YIELDED, 5 TONE,");
        DuelLetters x = Sentences.withoutLoss();
        x.friend(4, 1, 60);
        x.posts(2);
        x.rule(2, 100);
        x.posts(3);
        x.rule(0, 10);
        int[] first = {4, 1, 60, 5, 2, 7};
        for (int what = 0; what < 6; what++) s.is(first[what], x.told(0, what), "told(0, " + what + ")");

        s.says(3, "6 which TERM it YIELDS, if it does (NONE: none can), 7 WORTH.");
        s.is(0, x.told(0, 6), "the term, not the care: of several the least");
        Due.tell(x, "tone 99");
        x.turns(0, 0);
        s.is(0, x.told(0, 6), "which, if it did: its tone raises");
        for (int t = 0; t < 4; t++) x.stand(t, 9);
        s.is(NONE, x.told(0, 6), "none can");
        x.set(0, 1, 0);
        s.is(0, x.told(0, 6), "side 0 can");
        s.is(60, x.told(0, 7), "worth");

        s.says(3, "BAD.");
        for (int f : new int[] {-1, 1, 7, 8, MIN, MAX}) {
            for (int what = 0; what < 8; what++) s.is(BAD, x.told(f, what), "no friend");
        }
        for (int what : new int[] {-1, 8, MIN, MAX}) s.is(BAD, x.told(0, what), "no such thing");
    }

    private void as() {
        s.says(4, "A FRIEND as one of a KIND: PRIDE.");
        DuelLetters x = new DuelLetters();
        x.friend(3, 0, 0);
        x.friend(4, 0, 99);
        s.is(0, x.as(0, 3), "a secret one as what it is, pride 0");
        s.is(0, x.as(0, 1), "a secret one as a hot one");
        s.is(99, x.as(1, 0), "a wise one as a friend, pride 99");

        s.says(4, "BAD: friend, kind; KIND: it is not of that KIND, nor of one under it.");
        for (int bad : new int[] {-1, 6, MIN, MAX}) {
            s.is(BAD, x.as(bad, 0), "no friend");
            s.is(BAD, x.as(0, bad), "no kind");
        }
        s.is(BAD, x.as(2, 0), "the friend behind the last");
        s.is(KIND, x.as(0, 2), "a secret one is not lazy");
        s.is(KIND, x.as(1, 1), "a wise one is not hot");
        x.turns(0, 1);
        s.is(KIND, x.as(0, 3), "a hot one is not secret: that is under it, not above");
    }

    private void turns() {
        s.says(5, "A FRIEND is of another KIND from now on: what it was.");
        DuelLetters x = new DuelLetters();
        x.friend(0, 1, 30);
        int was = 0;
        for (int kind : new int[] {5, 5, 4, 3, 2, 1, 0}) {
            s.is(was, x.turns(0, kind), "what it was");
            s.is(kind, x.told(0, 0), "what it is");
            was = kind;
        }
        s.is(30, x.told(0, 2), "pride stays");
        s.is(1, x.told(0, 1), "side stays");

        s.says(5, "BAD.");
        for (int bad : new int[] {-1, 6, MIN, MAX}) {
            s.is(BAD, x.turns(0, bad), "no kind");
            s.is(BAD, x.turns(bad, 0), "no friend");
        }
        s.is(BAD, x.turns(1, 0), "the friend behind the last");
        s.is(0, x.told(0, 0), "kind behind refusals");
    }

    private void set() {
        s.says(6, "SIDE, PRIDE (what 1, 2) of a FRIEND becomes v: what it was.");
        DuelLetters x = new DuelLetters();
        x.friend(0, 0, 50);
        x.friend(0, 0, 51);
        s.is(0, x.set(1, 1, 1), "side");
        s.is(1, x.set(1, 1, 0), "side");
        s.is(0, x.set(1, 1, 1), "side");
        s.is(51, x.set(1, 2, 0), "pride");
        s.is(0, x.set(1, 2, 99), "the least pride");
        s.is(99, x.told(1, 2), "the greatest pride");
        s.is(1, x.told(1, 1), "side then");
        s.is(50, x.told(0, 2), "another friend's pride");
        s.is(0, x.told(0, 1), "another friend's side");

        s.says(6, "BAD.");
        int[][] bad = {{-1, 1, 0}, {2, 1, 0}, {8, 2, 0}, {MIN, 2, 0}, {MAX, 1, 0}, {0, 0, 0}, {0, 3, 0}, {0, 4, 0}, {0, -1, 0},
            {0, MIN, 0}, {0, MAX, 0}, {0, 1, -1}, {0, 1, 2}, {0, 1, 99}, {0, 2, -1}, {0, 2, 100}, {0, 2, MAX}, {0, 1, MIN}};
        for (int[] b : bad) s.is(BAD, x.set(b[0], b[1], b[2]), "set(" + b[0] + ", " + b[1] + ", " + b[2] + ")");
        s.is(50, x.told(0, 2), "pride behind refusals");
        s.is(0, x.told(0, 1), "side behind refusals");
    }

    private void stand() {
        s.says(7, "STAND of a TERM becomes v: what it was.");
        DuelLetters x = new DuelLetters();
        for (int t = 0; t < 4; t++) s.is(5, x.stand(t, 2 * t), "what it was");
        s.is(246, x.table(3), "stands 0 2 4 6");
        for (int t = 0; t < 4; t++) s.is(2 * t, x.stand(t, 9 - t), "what it was");
        s.is(9876, x.table(3), "stands 9 8 7 6");

        s.says(7, "BAD.");
        int[][] bad = {{-1, 0}, {4, 0}, {MIN, 0}, {MAX, 0}, {0, -1}, {3, 10}, {0, MIN}, {3, MAX}};
        for (int[] b : bad) s.is(BAD, x.stand(b[0], b[1]), "stand(" + b[0] + ", " + b[1] + ")");
        s.is(9876, x.table(3), "stands behind refusals");
    }

    private void care() {
        s.says(8, "CARE of a SIDE for a TERM becomes v: what it was.");
        DuelLetters x = new DuelLetters();
        for (int side = 0; side < 2; side++) {
            for (int t = 0; t < 4; t++) s.is(1, x.care(side, t, 5 * side + t), "what it was");
        }
        for (int side = 0; side < 2; side++) {
            for (int t = 0; t < 4; t++) s.is(5 * side + t, x.care(side, t, 0), "each is its own");
        }

        s.says(8, "BAD.");
        int[][] bad = {{-1, 0, 5}, {2, 0, 5}, {MIN, 0, 5}, {MAX, 0, 5}, {0, -1, 5}, {0, 4, 5}, {1, -1, 5}, {1, 4, 5},
            {0, MIN, 5}, {1, MAX, 5}, {0, 0, -1}, {1, 3, 10}, {0, 0, MIN}, {0, 0, MAX}};
        for (int[] b : bad) s.is(BAD, x.care(b[0], b[1], b[2]), "care(" + b[0] + ", " + b[1] + ", " + b[2] + ")");
        for (int side = 0; side < 2; side++) {
            for (int t = 0; t < 4; t++) s.is(0, x.care(side, t, 0), "care behind refusals");
        }
    }

    private void honour() {
        s.says(9, "HONOUR of a SIDE becomes v: what it was.");
        DuelLetters x = new DuelLetters();
        s.is(20, x.honour(0, 400), "what it was");
        s.is(20, x.honour(1, 0), "the other side's is its own");
        s.is(400, x.honour(0, 7), "the greatest");
        s.is(0, x.honour(1, 8), "the least");

        s.says(9, "BAD.");
        int[][] bad = {{-1, 0}, {2, 0}, {MIN, 0}, {MAX, 0}, {0, -1}, {1, 401}, {0, MIN}, {1, MAX}};
        for (int[] b : bad) s.is(BAD, x.honour(b[0], b[1]), "honour(" + b[0] + ", " + b[1] + ")");
        s.is(7, x.honour(0, 0), "honour behind refusals");
        s.is(8, x.honour(1, 0), "honour behind refusals");
    }

    private void rule() {
        s.says(10, "HEAT (what 0), DUEL (1), LOSS (2) becomes v: what it was.");
        DuelLetters x = new DuelLetters();
        int[] first = {0, 60, 10};
        for (int what = 0; what < 3; what++) s.is(first[what], x.rule(what, 30 + what), "what it was");
        for (int what = 0; what < 3; what++) {
            s.is(30 + what, x.count(2 + what), "what it is");
            s.is(30 + what, x.rule(what, 1), "what it was");
        }

        s.says(10, "BAD.");
        int[][] bad = {{-1, 1}, {3, 1}, {MIN, 1}, {MAX, 1}, {0, -1}, {0, 100}, {1, 0}, {1, 100}, {2, -1}, {2, 101},
            {0, MIN}, {1, MIN}, {2, MIN}, {0, MAX}, {1, MAX}, {2, MAX}};
        for (int[] b : bad) s.is(BAD, x.rule(b[0], b[1]), "rule(" + b[0] + ", " + b[1] + ")");
        for (int what = 0; what < 3; what++) s.is(1, x.count(2 + what), "rule " + what + " behind refusals");
        s.is(1, x.rule(2, 100), "a loss of 100 is one");
        s.is(100, x.rule(2, 0), "a loss of 0 is one");
    }

    private static int drawnZ(int z, int draws) {
        long at = z & 0xffffffffL;
        for (int i = 0; i < draws; i++) at = (at * 1103515245L + 12345L) & 0xffffffffL;
        return (int) at;
    }

    private void deal() {
        s.says(11, "FRIENDS are drawn, n (1 .. 8) of them,");
        for (int n = 1; n <= 8; n += 7) {
            DuelLetters x = new DuelLetters();
            x.seed(-7);
            s.is(n, x.deal(n), "how many came of " + n);
            s.is(n, x.count(0), "friends");
            s.is(drawnZ(-7, 3 * n), x.count(8), "three draws each");
            s.is((drawnZ(-7, 3 * n) >>> 8) % 100, x.told(n - 1, 2), "pride of the last");
        }

        s.says(11, "as many as there is room for (no draws for others): how many came.");
        for (int room = 0; room <= 3; room++) {
            DuelLetters x = new DuelLetters();
            for (int i = room; i < 8; i++) x.friend(0, 0, i);
            s.is(Math.min(2, room), x.deal(2), "two, with room for " + room);
            s.is(drawnZ(1, 3 * Math.min(2, room)), x.count(8), "draws for those that came");
            s.is(Math.max(0, room - 2), x.deal(8), "eight, with the room that is left");
            s.is(drawnZ(1, 3 * room), x.count(8), "draws for those that came");
            s.is(8, x.count(0), "friends");
        }

        s.says(11, "BAD.");
        DuelLetters x = new DuelLetters();
        for (int n : new int[] {0, 9, -1, MIN, MAX}) s.is(BAD, x.deal(n), "deal(" + n + ")");
        s.is(0, x.count(0), "friends behind refusals");
        s.is(1, x.count(8), "no draws behind refusals");
        x.deal(8);
        for (int n : new int[] {0, 9}) s.is(BAD, x.deal(n), "deal(" + n + ") without room");
    }

    private void seed() {
        s.says(12, "z becomes v: what it was.");
        DuelLetters x = new DuelLetters();
        int was = 1;
        for (int v : new int[] {0, -1, MIN, MAX, BAD, NONE, 42}) {
            s.is(was, x.seed(v), "what it was");
            s.is(v, x.count(8), "what it is");
            was = v;
        }
    }
}
