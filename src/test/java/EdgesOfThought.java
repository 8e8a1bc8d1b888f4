/** What is only thought in part 3 of the document's terms, and promises 17 to 24, sentence by sentence. */
final class EdgesOfThought {
    private static final int BAD = Sentences.BAD, NONE = Sentences.NONE, NOTHING = Sentences.NOTHING, MIN = Sentences.MIN,
            MAX = Sentences.MAX, TERMS = Sentences.TERMS;
    private final Sentences s;

    EdgesOfThought(Sentences s) {
        this.s = s;
    }

    void run() {
        onlyThought();
        behindPosts();
        howItEnds();
        whoIsHeldBack();
        howCool();
        whoIsBought();
        whatIsCaredFor();
        whichPlacesCount();
        behind();
        ends();
        held();
        cool();
        bought();
        cared();
        fee();
        fine();
    }

    /** One bribed friend of side 0, that yields a step of term 0 a post, as long as it goes; no peace by itself. */
    private static DuelLetters oneStepAPost() {
        DuelLetters x = Sentences.withoutLoss();
        x.friend(5, 0, 0);
        x.honour(0, 0);
        x.honour(1, 400);
        return x;
    }

    /** One friend of side 0 whose letters raise by 5 from the one that is told here on, and yield ahead of it. */
    private static DuelLetters raisesFrom(int letter) {
        DuelLetters x = Sentences.withoutLoss();
        x.friend(0, 0, 0);
        x.honour(0, 400);
        Due.tell(x, "tone 50*(s>" + (letter - 1) + ")");
        return x;
    }

    private void onlyThought() {
        s.says(TERMS, "(All that follows is only thought, from now on, z as it is, without the bound of THE POST: nothing changes.)");
        DuelLetters x = new DuelLetters();
        x.seed(31);
        x.deal(7);
        x.honour(0, 60);
        Due.tell(x, "tone p+h/2-s");
        x.posts(3);
        Sentences.marked(x, 0, 0, 5, 5, 5, 5);
        String was = Fingerprint.ofQuarrel(x);
        int thought = x.behind(9, 1) + x.ends(0) + x.held(9) + x.cool(9) + x.bought(9, 0) + x.cared(0, 1, 1) + x.reads(0);
        s.same(was, Fingerprint.ofQuarrel(x), "nothing changes by what was thought (" + thought + ")");
        int heat = x.behind(5, 0), stands = x.behind(5, 1), lost = x.behind(5, 3);
        x.posts(5);
        s.is(heat, x.count(2), "z as it is: heat");
        s.is(stands, x.table(3), "z as it is: stands");
        s.is(lost, x.table(4), "z as it is: lost");
        x = oneStepAPost();
        Sentences.goToPost(x, 9999);
        s.is(3555, x.behind(2, 1), "beyond the last post");
        x.honour(1, 20);
        s.is(4, x.ends(0), "ends beyond the last post");
        s.is(59, x.cool(4), "cool beyond the last post");
        s.is(16, x.bought(4, 1), "bought beyond the last post");
        Sentences.marked(x, 0, 0, 5555, 4555, 3555);
        s.is(NONE, x.reads(0), "a sheet that reads beyond the last post");
        s.is(9999, x.count(1), "the post itself stays");
    }

    private void behindPosts() {
        s.says(TERMS, "BEHIND n POSTS: HEAT; STANDS as one number; whether there is PEACE; LOST.");
        DuelLetters x = oneStepAPost();
        x.rule(0, 3);
        x.honour(1, 18);
        int[][] rows = {{0, 3, 5555, 0, 0}, {1, 2, 4555, 0, 0}, {2, 1, 3555, 1, 0}, {3, 1, 3555, 1, 0}, {100, 1, 3555, 1, 0}};
        for (int[] r : rows) {
            for (int what = 0; what < 4; what++) s.is(r[what + 1], x.behind(r[0], what), "behind(" + r[0] + ", " + what + ")");
        }
        x.rule(2, 100);
        x.posts(2);
        int[] lost = {3, 5555, 0, 9};
        for (int what = 0; what < 4; what++) s.is(lost[what], x.behind(7, what), "all are lost: " + what);
    }

    private void howItEnds() {
        s.says(TERMS, "ENDS: behind how many POSTS (0 .. 200) there is PEACE, or HEAT is DUEL or more, first;");
        DuelLetters x = oneStepAPost();
        x.honour(1, 16);
        s.is(0, x.ends(0), "peace now");
        x.honour(1, 17);
        s.is(1, x.ends(0), "peace behind one");
        x.rule(0, 60);
        s.is(0, x.ends(0), "a duel now");
        int[][] last = {{1, 1}, {199, 199}, {200, 200}, {201, NONE}, {9999, NONE}};
        for (int[] l : last) {
            x = raisesFrom(l[0]);
            x.rule(1, 5);
            s.is(l[1], x.ends(0), "a duel by letter " + l[0]);
        }
        x = raisesFrom(198);
        x.rule(1, 15);
        s.is(200, x.ends(0), "heat 15 is the duel, behind 200");
        x.rule(1, 16);
        s.is(NONE, x.ends(0), "heat 15 is no duel by 16");

        s.says(TERMS, "which (1 PEACE, 2 DUEL, PEACE first).");
        x = oneStepAPost();
        x.honour(1, 16);
        s.is(1, x.ends(1), "peace");
        x.rule(0, 60);
        s.is(1, x.ends(1), "peace and duel: peace first");
        x.honour(1, 17);
        s.is(2, x.ends(1), "a duel");
        // behind one post there are both: term 0 goes down a step, heat is 5 - 1 more
        x.friend(0, 1, 99);
        x.rule(0, 56);
        s.is(1, x.ends(1), "both behind one post: peace first");
        s.is(1, x.ends(0), "both behind one post");
        x.honour(1, 18);
        s.is(2, x.ends(1), "the duel comes first");
    }

    private void whoIsHeldBack() {
        s.says(TERMS, "HELD BACK for n: FRIENDS without whose letters (none is SENT, no draw) there is PEACE behind n POSTS,");
        DuelLetters x = oneStepAPost();
        x.friend(5, 1, 0);
        x.honour(1, 18);
        // one step down, one step up: without the second there is peace behind two posts
        s.is(0, x.held(1), "one post is too few");
        s.is(2, x.held(2), "without the second");
        s.is(2, x.held(60), "without the second, peace stays");
        x = Sentences.withoutLoss();
        x.friend(0, 1, 0);
        x.friend(5, 0, 0);
        x.honour(0, 0);
        x.honour(1, 17);
        s.is(1, x.held(1), "without the first");
        // no draw for it: the second then has the draw that was the first one's
        int seed = 0;
        while ((seed * 1103515245 + 12345 >>> 8) % 100 < 50
                || ((seed * 1103515245 + 12345) * 1103515245 + 12345 >>> 8) % 100 >= 50) seed++;
        x.rule(2, 50);
        x.seed(seed);
        s.is(1, x.held(1), "the first draw is not lost, the second would be");

        s.says(TERMS, "if there is none with them.");
        x = oneStepAPost();
        x.friend(5, 0, 0);
        x.honour(1, 18);
        // two steps a post: peace with both, behind two posts also without one of them
        s.is(0, x.held(2), "there is peace with them");
        x.honour(1, 16);
        s.is(0, x.held(1), "there is peace now");
    }

    private void howCool() {
        s.says(TERMS, "COOL for n: the greatest HEAT 0 .. 99 with which, if it were so now, there is PEACE behind n POSTS.");
        DuelLetters x = oneStepAPost();
        x.honour(1, 17);
        x.rule(1, 99);
        s.is(98, x.cool(1), "99 is the duel");
        x.rule(1, 1);
        s.is(0, x.cool(1), "1 is the duel");
        x.honour(1, 16);
        s.is(99, x.cool(1), "peace now, with any heat");
        x.honour(1, 18);
        s.is(NONE, x.cool(1), "with none");
        x.rule(0, 99);
        s.is(0, x.cool(2), "heat as it is does not count");
        s.is(99, x.count(2), "heat stays as it is");
        // a secret one: it yields at 40 or more, and at 18 or less (tone 49); the greatest counts
        x = Sentences.withoutLoss();
        x.friend(3, 0, 41);
        x.honour(0, 0);
        x.honour(1, 17);
        x.rule(1, 41);
        s.is(40, x.cool(1), "40 yields");
        x.rule(1, 40);
        s.is(18, x.cool(1), "18 yields, 19 to 39 do not");
        // a hot one with pride 60 raises from heat 0 on; there is no heat below it
        x.turns(0, 1);
        x.set(0, 2, 60);
        s.is(NONE, x.cool(1), "heat 0 raises");
        x.set(0, 2, 59);
        s.is(0, x.cool(1), "heat 0 yields, heat 1 raises");
    }

    private void whoIsBought() {
        s.says(TERMS, "BOUGHT for n: the FRIEND that, if it were BRIBED, leaves its SIDE least of what it HAS behind n POSTS; "
                + "of several the least.");
        DuelLetters x = Sentences.withoutLoss();
        for (int i = 0; i < 8; i++) x.friend(0, 0, 99);
        x.rule(0, 1);
        x.rule(1, 99);
        s.is(0, x.bought(1, 0), "all alike: the least");
        s.is(19, x.bought(1, 1), "20 less one step");
        x.turns(0, 5);
        x.turns(3, 5);
        // three steps with any but 0 and 3, two with them
        s.is(1, x.bought(1, 0), "one that is not bribed yet");
        s.is(17, x.bought(1, 1), "20 less three steps");
        // its own side counts: 17 for side 1 too, by two steps down and one up
        x.set(7, 1, 1);
        s.is(1, x.bought(1, 0), "17 for side 0 and for side 1: the least");
        x.care(1, 3, 0);
        s.is(7, x.bought(1, 0), "the one of side 1");
        s.is(13, x.bought(1, 1), "12 and a step");
        // equal for both sides: the least number
        x = Sentences.withoutLoss();
        x.friend(5, 1, 0);
        x.friend(5, 0, 0);
        x.stand(0, 3);
        // 18 and 18, one step each way
        s.is(0, x.bought(1, 0), "18 for both: the least");
        s.is(18, x.bought(1, 1), "18 for both");
    }

    private void whatIsCaredFor() {
        s.says(TERMS, "CARED by a SHEET, for a SIDE: the TERM that, if that SIDE had CARE 9 for it now, leaves STANDS 0 .. 3 "
                + "behind one POST that differ least from places 0 .. 3 that are numbers");
        DuelLetters x = oneStepAPost();
        for (int t = 0; t < 4; t++) x.care(0, t, 8);
        // the bribed one of side 0 takes the term with CARE 9
        int[][] rows = {{4, 5, 5, 5}, {5, 4, 5, 5}, {5, 5, 4, 5}, {5, 5, 5, 4}};
        for (int t = 0; t < 4; t++) {
            Sentences.marked(x, 0, t % 2, rows[t]);
            s.is(t, x.cared(0, 0, 0), "cared for term " + t);
            s.is(0, x.cared(0, 0, 1), "differences for term " + t);
            // side 1's cares move nothing: 4555 each time
            s.is(0, x.cared(0, 1, 0), "side 1, of several the least");
            s.is(t == 0 ? 0 : 2, x.cared(0, 1, 1), "side 1, differences");
        }
        // CARE 9 in place of 9 changes nothing: two terms with 9, the least is taken
        x.care(0, 1, 9);
        Sentences.marked(x, 0, 0, 5, 5, 5, 4);
        s.is(0, x.cared(0, 0, 0), "with term 1 at 9 already, terms 2 and 3 leave 5455");
        s.is(2, x.cared(0, 0, 1), "with term 1 at 9 already");
        // care 9 may make peace now: then nothing moves
        x = oneStepAPost();
        x.honour(0, 21);
        x.honour(1, 10);
        Sentences.marked(x, 0, 0, 5, 5, 5, 5);
        s.is(0, x.cared(0, 0, 1), "peace by care 9");
    }

    private void whichPlacesCount() {
        s.says(TERMS, "(signs left out; other places: 0), together; of several the least.");
        DuelLetters x = oneStepAPost();
        // stands behind one post: 4555, 5455, 5545, 5554
        Sentences.marked(x, 0, 1, 99999, -99999, 0, 7);
        s.is(99999 - 5 + 99999 + 4 + 5 + 2, x.cared(0, 0, 1), "differences without signs");
        s.is(1, x.cared(0, 0, 0), "term 1 is nearer to what is far below");
        Sentences.marked(x, 1, 1, NONE, 5, NONE, 9);
        s.is(4, x.cared(1, 0, 1), "NO NUMBER adds 0");
        s.is(0, x.cared(1, 0, 0), "term 0 and term 2 add nothing: the least");
        Sentences.marked(x, 1, 1, NONE, 4);
        s.is(0, x.cared(1, 0, 1), "beyond the sheet adds 0");
        s.is(1, x.cared(1, 0, 0), "term 1");
        Sentences.marked(x, 1, 1, NONE, NONE, NONE, NONE);
        s.is(0, x.cared(1, 0, 1), "no numbers at all");
        s.is(0, x.cared(1, 0, 0), "no numbers at all: the least");
        x.sheet(1, 0, 0);
        s.is(0, x.cared(1, 0, 1), "no places");
        Sentences.marked(x, 1, 0, 5, 5, 5, 4, 30000, -30000);
        s.is(0, x.cared(1, 0, 1), "places beyond the fourth");
        s.is(3, x.cared(1, 0, 0), "places beyond the fourth");
    }

    private void behind() {
        s.says(17, "BEHIND n (0 .. 100) POSTS: what 0 HEAT, 1 STANDS, 2 PEACE (1, 0), 3 LOST.");
        DuelLetters x = raisesFrom(100);
        x.rule(1, 99);
        x.rule(0, 90);
        s.is(90, x.behind(0, 0), "behind no post");
        s.is(5555, x.behind(0, 1), "behind no post");
        s.is(0, x.behind(0, 2), "behind no post");
        s.is(0, x.behind(0, 3), "behind no post");
        s.is(70, x.behind(99, 0), "twenty steps, the 100th letter is not sent");
        s.is(75, x.behind(100, 0), "the 100th letter raises");
        s.is(0, x.behind(100, 1), "all is yielded");
        x.honour(0, 0);
        s.is(1, x.behind(100, 2), "peace");

        s.says(17, "BAD.");
        for (int n : new int[] {-1, 101, MIN, MAX}) {
            for (int what = 0; what < 4; what++) s.is(BAD, x.behind(n, what), "behind(" + n + ", " + what + ")");
        }
        for (int what : new int[] {-1, 4, MIN, MAX}) s.is(BAD, x.behind(0, what), "behind(0, " + what + ")");
    }

    private void ends() {
        s.says(18, "ENDS: what 0 behind how many, 1 which.");
        DuelLetters x = raisesFrom(3);
        x.rule(1, 20);
        s.is(6, x.ends(0), "5, 10, 15, 20 by letters 3 to 6");
        s.is(2, x.ends(1), "a duel");
        x.honour(0, 18);
        x.honour(1, 18);
        s.is(2, x.ends(0), "two steps first");
        s.is(1, x.ends(1), "peace");

        s.says(18, "BAD; NONE: not by then.");
        for (int what : new int[] {-1, 2, MIN, MAX}) {
            s.is(BAD, x.ends(what), "ends(" + what + ")");
            s.is(BAD, new DuelLetters().ends(what), "ends(" + what + "): BAD stands first");
        }
        x = raisesFrom(201);
        x.rule(1, 5);
        s.is(NONE, x.ends(0), "not by then");
        s.is(NONE, x.ends(1), "not by then");
    }

    private void held() {
        s.says(19, "HELD BACK for n (1 .. 60), as a set.");
        DuelLetters x = Sentences.withoutLoss();
        s.is(0, x.held(1), "no friends");
        s.is(0, x.held(60), "no friends");
        // three of side 1 give back what two of side 0 yield; without any one of the three term 0 stays: no peace
        for (int i = 0; i < 5; i++) x.friend(5, i % 2 == 0 ? 1 : 0, 0);
        x.honour(0, 0);
        x.honour(1, 17);
        s.is(0, x.held(1), "one of three is not enough");
        x.set(4, 1, 0);
        // two of side 1 now, three of side 0: a step down a post
        s.is(0, x.held(1), "peace with all");
        x.honour(1, 18);
        s.is(1 + 4, x.held(1), "without one of the two of side 1");
        // for 60, and not for 59: the duel keeps the peace away, or the letters that are left
        x = raisesFrom(61);
        x.friend(5, 1, 0);
        x.honour(0, 0);
        x.honour(1, 36);
        x.care(1, 0, 0);
        x.honour(1, 27);
        s.is(0, x.held(14), "14 steps without the second are too few");
        s.is(2, x.held(20), "20 steps without the second");
        s.is(2, x.held(60), "for 60");

        s.says(19, "BAD.");
        for (int n : new int[] {0, 61, -1, MIN, MAX}) {
            s.is(BAD, x.held(n), "held(" + n + ")");
            s.is(BAD, new DuelLetters().held(n), "held(" + n + ") without friends");
        }
    }

    private void cool() {
        s.says(20, "COOL for n (1 .. 40).");
        DuelLetters x = Sentences.withoutLoss();
        x.friend(5, 0, 0);
        x.honour(0, 0);
        x.honour(1, 36);
        s.is(NONE, x.cool(19), "19 steps are too few");
        s.is(59, x.cool(20), "20 steps");
        s.is(59, x.cool(40), "40 posts");
        // a letter that yields from the 40th one on: peace behind 40 alone
        x = Sentences.withoutLoss();
        x.friend(0, 0, 0);
        x.honour(0, 0);
        x.honour(1, 17);
        x.rule(1, 99);
        Due.tell(x, "tone 50*(s<16)");
        // heat is 75 more by 15 letters: 23 is the most that stays below 99
        s.is(23, x.cool(16), "15 letters raise");
        s.is(NONE, x.cool(15), "none yields yet");
        s.is(23, x.cool(40), "peace stays");

        s.says(20, "BAD; NONE: with none.");
        for (int n : new int[] {0, 41, -1, MIN, MAX}) {
            s.is(BAD, x.cool(n), "cool(" + n + ")");
            s.is(BAD, new DuelLetters().cool(n), "cool(" + n + "): BAD stands first");
        }
        s.is(NONE, new DuelLetters().cool(1), "without friends");
        s.is(NONE, new DuelLetters().cool(40), "without friends");
    }

    private void bought() {
        s.says(21, "BOUGHT for n (1 .. 60): what 0 the FRIEND, 1 what its SIDE HAS then.");
        DuelLetters x = Sentences.withoutLoss();
        x.friend(0, 0, 0);
        x.friend(1, 0, 99);
        x.honour(1, 400);
        // friend 1 raises else: with it bribed both yield the same term, from 5 to 3, 1 and 0
        s.is(1, x.bought(1, 0), "the one that raises");
        s.is(18, x.bought(1, 1), "20 less two");
        s.is(1, x.bought(9, 0), "nine posts");
        s.is(5, x.bought(9, 1), "three terms are at 0");
        s.is(0, x.bought(60, 1), "all is yielded");
        // friend 0 bribed yields 11 steps up to the duel and the rest not; friend 1 bribed all
        s.is(1, x.bought(60, 0), "sixty posts");
        s.is(0, x.told(1, 4), "nothing is changed");
        s.is(1, x.told(1, 0), "nothing is changed");

        s.says(21, "BAD; NONE: there are no FRIENDS.");
        DuelLetters y = new DuelLetters();
        for (int n : new int[] {0, 61, -1, MIN, MAX}) {
            s.is(BAD, x.bought(n, 0), "bought(" + n + ", 0)");
            s.is(BAD, y.bought(n, 1), "bought(" + n + ", 1): BAD stands first");
        }
        for (int what : new int[] {-1, 2, MIN, MAX}) {
            s.is(BAD, x.bought(1, what), "bought(1, " + what + ")");
            s.is(BAD, y.bought(1, what), "bought(1, " + what + "): BAD stands first");
        }
        s.is(NONE, y.bought(1, 0), "no friends");
        s.is(NONE, y.bought(60, 1), "no friends");
    }

    private void cared() {
        s.says(22, "CARED by a SHEET, for a SIDE: what 0 the TERM, 1 the differences, together.");
        DuelLetters x = oneStepAPost();
        for (int sheet = 0; sheet < 4; sheet++) {
            Sentences.marked(x, sheet, 0, 5, 5, 5, 1);
            s.is(3, x.cared(sheet, 0, 0), "the term by sheet " + sheet);
            s.is(3, x.cared(sheet, 0, 1), "the differences by sheet " + sheet);
            s.is(0, x.cared(sheet, 1, 0), "the term of side 1 by sheet " + sheet);
            s.is(5, x.cared(sheet, 1, 1), "the differences of side 1 by sheet " + sheet);
        }
        s.is(1, x.care(0, 3, 1), "nothing is changed");

        s.says(22, "BAD; NOTHING.");
        x.sheet(3, -1, 0);
        s.is(NOTHING, x.cared(3, 0, 0), "MISSING");
        s.is(NOTHING, x.cared(3, 1, 1), "MISSING");
        for (int bad : new int[] {-1, 4, MIN, MAX}) s.is(BAD, x.cared(bad, 0, 0), "no sheet");
        for (int bad : new int[] {-1, 2, MIN, MAX}) {
            s.is(BAD, x.cared(0, bad, 0), "no side");
            s.is(BAD, x.cared(0, 0, bad), "no such thing");
            s.is(BAD, x.cared(3, bad, 0), "no side, MISSING: BAD stands first");
            s.is(BAD, x.cared(3, 0, bad), "no such thing, MISSING: BAD stands first");
        }
    }

    private void fee() {
        s.says(23, "What fee gives.");
        DuelLetters x = new DuelLetters();
        s.is(0, x.fee(), "without a text: lost");
        x.friend(0, 0, 0);
        x.rule(2, 100);
        x.posts(100);
        s.is(100, x.fee(), "without a text: lost");
        Due.tell(x, "fee 0-l*p");
        s.is(-10000, x.fee(), "it is not held within anything");
        Due.tell(x, "fee 4096*4096*128");
        s.is(MIN, x.fee(), "the least int");
        Due.tell(x, "fee 4096*4096*128-1");
        s.is(MAX, x.fee(), "the greatest int");
    }

    private void fine() {
        s.says(24, "What fine gives for a FRIEND.");
        DuelLetters x = oneStepAPost();
        x.friend(0, 0, 99);
        x.rule(0, 1);
        x.posts(3);
        s.is(3, x.fine(0), "without a text: yielded");
        s.is(0, x.fine(1), "without a text: yielded");
        Due.tell(x, "fine y*100-n");
        s.is(297, x.fine(0), "by a text");
        s.is(-3, x.fine(1), "by a text");

        s.says(24, "BAD.");
        for (int f : new int[] {-1, 2, 8, MIN, MAX}) s.is(BAD, x.fine(f), "fine(" + f + ")");
        s.is(BAD, new DuelLetters().fine(0), "there are no friends");
    }
}
