/** Promises 13 to 16: posts, the table, the ways both sides would take. Worked out by hand from the document. */
public final class PostsTest {
    private static final int BAD = DuelLetters.BAD, NONE = DuelLetters.NONE;
    private static final int MIN = Integer.MIN_VALUE, MAX = Integer.MAX_VALUE;
    private static final Due due = new Due();

    public static void main(String[] args) {
        postsYield();
        postsRaise();
        allAtOnce();
        sentCountsInTone();
        lots();
        peaceAndDuelStop();
        lastPost();
        table();
        taken();
        fairest();
        nearest();
        due.end();
    }

    private static DuelLetters withoutLoss() {
        DuelLetters x = new DuelLetters();
        x.rule(2, 0);
        return x;
    }

    private static void postsYield() {
        due.promise(13);
        DuelLetters x = withoutLoss();
        x.friend(0, 0, 10);
        x.rule(0, 20);
        // at first side 1 has 16 of 20; tone (10 + 20) / 2 yields: term 0 goes to 4, 3, 2, 1, and then there is peace
        due.is(1, x.posts(1), "posts(1)");
        due.is(4555, x.table(3), "stands");
        due.is(19, x.count(2), "heat is 1 less for a step that is yielded");
        // side 0 has 19 now, so there is no peace ever: it goes on with all terms, down to 0000
        due.is(18, x.posts(18), "posts(18)");
        due.is(1, x.table(3), "stands behind 19 steps");
        due.is(1, x.count(2), "heat behind 19 steps");
        due.is(1, x.posts(3), "no term is left behind the 20th step");
        due.is(0, x.count(2), "heat then");
        due.is(22, x.told(0, 3), "sent");
        due.is(20, x.told(0, 4), "yielded");
        due.is(22, x.count(1), "the post");
        for (int n : new int[] {0, 101, -1, MIN, MAX}) due.is(BAD, x.posts(n), "posts of a wrong number");
        due.is(22, x.count(1), "the post behind refusals");
    }

    private static void postsRaise() {
        DuelLetters x = withoutLoss();
        x.friend(0, 1, 99);
        due.is(1, x.posts(1), "tone 49 yields");
        due.is(6555, x.table(3), "stands");
        due.is(0, x.count(2), "heat is 0 at least");
        x.rule(0, 1);
        due.is(0, x.posts(1), "tone 50 raises");
        due.is(6, x.count(2), "heat is 5 more");
        due.is(6555, x.table(3), "stands stay");
        x.rule(1, 99);
        x.rule(0, 96);
        x.posts(1);
        due.is(99, x.count(2), "heat is 99 at most");
    }

    private static void allAtOnce() {
        DuelLetters x = withoutLoss();
        // one raises, two yield: all by the heat ahead of the post
        x.friend(1, 0, 60);
        x.friend(0, 0, 60);
        x.friend(0, 1, 60);
        x.friend(0, 1, 60);
        x.rule(0, 38);
        x.stand(0, 9);
        x.stand(1, 9);
        x.stand(2, 9);
        x.stand(3, 8);
        x.honour(1, 300);
        // tones 69, 49, 49, 49: heat 38 + 5 - 3; term 0 goes down by one, term 3 up by two, held at 9
        due.is(3, x.posts(1), "three yield");
        due.is(40, x.count(2), "heat");
        due.is(8999, x.table(3), "stands");
        due.is(1, x.told(2, 4), "yielded of the one");
        due.is(1, x.told(3, 4), "yielded of the other, beyond 9");
        // and down: two friends of side 0 at a stand of 1
        x = withoutLoss();
        x.friend(0, 0, 0);
        x.friend(0, 0, 0);
        x.stand(0, 1);
        due.is(2, x.posts(1), "two yield");
        due.is(555, x.table(3), "held at 0");
        // up and down at once leave a term where it was
        x = withoutLoss();
        x.friend(0, 0, 0);
        x.friend(0, 1, 0);
        due.is(2, x.posts(1), "one up, one down");
        due.is(5555, x.table(3), "stands");
    }

    private static void sentCountsInTone() {
        DuelLetters x = withoutLoss();
        x.friend(0, 1, 0);
        x.honour(1, 400);
        Due.tell(x, "tone s * 25");
        // sent is 1 more ahead of the tone: 25 yields, 50 raises
        due.is(1, x.posts(1), "the first letter");
        due.is(0, x.posts(1), "the second letter");
        due.is(5, x.count(2), "heat");
    }

    private static void lots() {
        DuelLetters x = new DuelLetters();
        x.rule(2, 50);
        x.honour(0, 400);
        x.friend(5, 0, 0);
        x.friend(5, 1, 0);
        x.seed(77);
        long z = 77;
        int lost = 0;
        int[] yielded = new int[2];
        for (int i = 0; i < 40; i++) {
            z = (z * 1103515245L + 12345L) & 0xffffffffL;
            if ((z >> 8) % 100 < 50) lost++; else yielded[i % 2]++;
        }
        due.is(yielded[0] + yielded[1], x.posts(20), "posts by lot");
        due.is(lost, x.table(4), "lost");
        due.is(yielded[0], x.told(0, 4), "yielded by the first");
        due.is(yielded[1], x.told(1, 4), "yielded by the second");
        due.is((int) z, x.count(8), "z behind 40 draws");
        x.rule(2, 100);
        due.is(0, x.posts(5), "all are lost");
        due.is(lost + 10, x.table(4), "lost then");
        // a rest that is just the loss is not lost: seed 1 draws 4305... by 100
        int z1 = 1103515245 + 12345;
        int rest = (z1 >>> 8) % 100;
        for (int loss = rest; loss <= rest + 1; loss++) {
            x = new DuelLetters();
            x.friend(5, 0, 0);
            x.rule(2, loss);
            due.is(loss == rest ? 1 : 0, x.posts(1), "loss " + loss + ", rest " + rest);
        }
    }

    private static void peaceAndDuelStop() {
        DuelLetters x = withoutLoss();
        x.friend(5, 0, 0);
        x.honour(1, 16);
        due.is(1, x.table(2), "peace");
        due.is(0, x.posts(7), "posts in peace");
        due.is(7, x.count(1), "the post goes on in peace");
        due.is(0, x.told(0, 3), "nothing is sent in peace");
        due.is(1, x.count(8), "nothing is drawn in peace");
        x.honour(1, 20);
        x.rule(0, 60);
        due.is(0, x.posts(4), "posts in a duel");
        due.is(11, x.count(1), "the post goes on in a duel");
        due.is(60, x.count(2), "heat stays in a duel");
        x.rule(0, 59);
        due.is(1, x.posts(1), "heat right below duel");
        // peace comes in between: side 0 goes from 20 to 18, and stays there
        x = withoutLoss();
        x.friend(5, 0, 0);
        x.honour(0, 10);
        x.honour(1, 18);
        due.is(2, x.posts(9), "posts up to peace");
        due.is(3555, x.table(3), "stands in peace");
        due.is(9, x.count(1), "the post");
        due.is(2, x.told(0, 3), "sent up to peace");
    }

    private static void lastPost() {
        DuelLetters x = withoutLoss();
        for (int i = 0; i < 99; i++) x.posts(100);
        x.posts(98);
        due.is(9998, x.count(1), "the post");
        x.friend(5, 0, 0);
        x.honour(0, 400);
        due.is(1, x.posts(100), "one post is left");
        due.is(9999, x.count(1), "the last post");
        due.is(0, x.posts(1), "none is left");
        due.is(9999, x.count(1), "the last post");
        due.is(1, x.told(0, 3), "sent");
        due.is(3555, x.behind(1, 1), "a thought is not bound by the last post");
    }

    private static void table() {
        due.promise(14);
        DuelLetters x = withoutLoss();
        int[] care0 = {1, 2, 3, 4}, care1 = {9, 0, 5, 7}, stands = {9, 0, 4, 6};
        for (int t = 0; t < 4; t++) {
            x.care(0, t, care0[t]);
            x.care(1, t, care1[t]);
            x.stand(t, stands[t]);
        }
        due.is(9 + 0 + 12 + 24, x.table(0), "what side 0 has");
        due.is(0 + 0 + 25 + 21, x.table(1), "what side 1 has");
        due.is(1, x.table(2), "peace");
        due.is(9046, x.table(3), "stands");
        x.honour(0, 46);
        due.is(0, x.table(2), "no peace");
        x.friend(5, 0, 0);
        x.friend(0, 1, 99);
        x.rule(0, 20);
        x.posts(2);
        // the one yields twice, the other raises twice
        due.is(4, x.table(5), "sent of all");
        due.is(2, x.table(6), "yielded of all");
        due.is(0, x.table(4), "lost");
        x.rule(2, 100);
        x.posts(2);
        due.is(4, x.table(4), "lost");
        due.is(8, x.table(5), "sent of all");
        for (int w : new int[] {-1, 7, MIN, MAX}) due.is(BAD, x.table(w), "table of no such thing");
        for (int i = 2; i < 8; i++) x.friend(0, 0, 0);
        x.posts(1);
        due.is(16, x.table(5), "sent of eight");
        due.is(2, x.table(6), "yielded of eight");
    }

    private static void onlyTerm(DuelLetters x, int term) {
        for (int t = 0; t < 4; t++) {
            x.care(0, t, t == term ? 1 : 0);
            x.care(1, t, t == term ? 1 : 0);
        }
    }

    private static void taken() {
        due.promise(15);
        DuelLetters x = new DuelLetters();
        due.is(0, x.taken(), "36 are shared out, 40 are wanted");
        x.honour(0, 17);
        due.is(0, x.taken(), "36 are shared out, 37 are wanted");
        x.honour(0, 0);
        x.honour(1, 0);
        due.is(10000, x.taken(), "all are taken");
        x.honour(0, 36);
        due.is(1, x.taken(), "9999 alone");
        x.honour(0, 35);
        due.is(5, x.taken(), "9999 and four one below it");
        x.honour(0, 0);
        x.honour(1, 36);
        due.is(1, x.taken(), "0 alone");
        for (int t = 0; t < 4; t++) {
            onlyTerm(x, t);
            x.honour(0, 3);
            x.honour(1, 4);
            due.is(3000, x.taken(), "the one term stands at 3, 4 or 5");
        }
        due.is(5555, x.table(3), "nothing is changed");
    }

    private static void fairest() {
        due.promise(16);
        DuelLetters x = new DuelLetters();
        due.is(NONE, x.terms(0), "none is taken");
        due.is(NONE, x.terms(1), "none is taken");
        x.honour(0, 18);
        x.honour(1, 19);
        due.is(NONE, x.terms(0), "none is taken, but for one");
        due.is(NONE, x.terms(1), "none is taken, but for one");
        x.honour(0, 0);
        x.honour(1, 0);
        // both have 18 if the stands are 18 together: the least such number
        due.is(99, x.terms(0), "fairest by equal cares");
        x.honour(0, 10);
        // 23 - 10 and 13 - 0
        due.is(599, x.terms(0), "fairest above honour");
        x.honour(0, 0);
        int[] care0 = {9, 0, 0, 1}, care1 = {0, 2, 0, 1};
        for (int t = 0; t < 4; t++) {
            x.care(0, t, care0[t]);
            x.care(1, t, care1[t]);
        }
        // side 0 has 9 a + d, side 1 18 - 2 b + 9 - d: b and d 0, a 3
        due.is(3000, x.terms(0), "fairest: 27 and 27");
        for (int w : new int[] {-1, 2, MIN, MAX}) due.is(BAD, x.terms(w), "terms of no such thing");
        x.honour(1, 400);
        due.is(BAD, x.terms(2), "BAD stands ahead of NONE");
    }

    private static void nearest() {
        DuelLetters x = new DuelLetters();
        x.honour(0, 18);
        x.honour(1, 18);
        // the stands are to be 18 together, 20 as they are: 3555, 4455 and the like are two away
        due.is(3555, x.terms(1), "nearest");
        x.stand(0, 0);
        x.stand(1, 9);
        x.stand(2, 9);
        x.stand(3, 0);
        due.is(990, x.terms(1), "peace as it is");
        x.stand(0, 2);
        // 2990 is 20: 0990, 1890, 1980, 2790 and the like are two away
        due.is(990, x.terms(1), "nearest");
        x.stand(0, 0);
        x.stand(2, 6);
        // 0960 is 15: three more; the least number puts all three at the end
        due.is(963, x.terms(1), "nearest");
        due.is(960, x.table(3), "nothing is changed");
    }
}
