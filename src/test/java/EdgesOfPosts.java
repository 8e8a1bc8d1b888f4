/** Part 2 and the ways of part 3 of the document's terms, and promises 13 to 16, sentence by sentence. */
final class EdgesOfPosts {
    private static final int BAD = Sentences.BAD, NONE = Sentences.NONE, MIN = Sentences.MIN, MAX = Sentences.MAX,
            TERMS = Sentences.TERMS;
    private final Sentences s;

    EdgesOfPosts(Sentences s) {
        this.s = s;
    }

    void run() {
        nothing();
        asTheyWere();
        sent();
        lost();
        raises();
        yields();
        atOnce();
        heatAtOnce();
        draws();
        waysTaken();
        fairestWay();
        nearestWay();
        posts();
        table();
        taken();
        terms();
    }

    /** The first draw's rest by 100 from a seed on, and the second one's. */
    private static int restOfDraw(int seed, int draw) {
        long z = seed & 0xffffffffL;
        for (int i = 0; i < draw; i++) z = (z * 1103515245L + 12345L) & 0xffffffffL;
        return (int) ((z >> 8) % 100);
    }

    private void nothing() {
        s.says(TERMS, "A POST: (nothing, but that THE POST is 1 more, if there is PEACE, or HEAT is DUEL or more.)");
        // heat, duel, honour of side 1 (which has 16): whether a letter is sent
        int[][] rows = {{0, 60, 20, 1}, {0, 60, 17, 1}, {0, 60, 16, 0}, {59, 60, 20, 1}, {60, 60, 20, 0}, {61, 60, 20, 0},
            {99, 99, 20, 0}, {98, 99, 20, 1}, {0, 1, 20, 1}, {1, 1, 20, 0}, {60, 60, 16, 0}};
        for (int[] r : rows) {
            DuelLetters x = new DuelLetters();
            x.friend(5, 0, 0);
            x.rule(0, r[0]);
            x.rule(1, r[1]);
            x.rule(2, 0);
            x.honour(1, r[2]);
            String row = "heat " + r[0] + ", duel " + r[1] + ", honour " + r[2];
            s.is(r[3], x.posts(1), "yielded: " + row);
            s.is(1, x.count(1), "the post: " + row);
            s.is(r[3], x.told(0, 3), "sent: " + row);
            s.is(r[3] == 1 ? 4555 : 5555, x.table(3), "stands: " + row);
            s.is(Math.max(0, r[0] - r[3]), x.count(2), "heat: " + row);
            s.isTrue((x.count(8) == 1) == (r[3] == 0), "a draw, if one is sent: " + row);
        }
    }

    private void asTheyWere() {
        s.says(TERMS, "(1) FRIENDS by numbers, each by STANDS, HEAT as they were ahead of this POST:");
        DuelLetters x = Sentences.withoutLoss();
        // tones by heat 40: 69, 49, 49; if the first one's 5 counted at once, the others' would be 52
        x.friend(1, 1, 58);
        x.friend(0, 1, 59);
        x.friend(0, 0, 59);
        x.rule(0, 40);
        s.is(2, x.posts(1), "heat as it was");
        s.is(43, x.count(2), "5 more, twice 1 less");
        // two of side 0 see stand 1 of term 0, both yield it
        x = Sentences.withoutLoss();
        x.friend(0, 0, 0);
        x.friend(0, 0, 0);
        x.stand(0, 1);
        s.is(2, x.posts(1), "stands as they were");
        s.is(555, x.table(3), "both took term 0");
        // by numbers: the first draw is the first friend's
        int seed = 0;
        while (restOfDraw(seed, 1) >= 50 || restOfDraw(seed, 2) < 50) seed++;
        x = new DuelLetters();
        x.friend(5, 0, 0);
        x.friend(5, 1, 0);
        x.rule(2, 50);
        x.seed(seed);
        s.is(1, x.posts(1), "one letter of two is lost");
        s.is(0, x.told(0, 4), "the first one's");
        s.is(1, x.told(1, 4), "not the second one's");
    }

    private void sent() {
        s.says(TERMS, "SENT is 1 more;");
        DuelLetters x = Sentences.withoutLoss();
        x.friend(0, 0, 0);
        x.friend(0, 1, 0);
        x.honour(0, 400);
        Due.tell(x, "tone s*50");
        s.is(0, x.posts(1), "the first letter is one that is sent: tone 50");
        s.is(10, x.count(2), "both raise");
        s.is(1, x.told(0, 3), "sent by the one that raises");
        x.rule(2, 100);
        x.posts(1);
        s.is(2, x.told(1, 3), "sent, though it is lost");
        s.is(4, x.table(5), "sent of all");
    }

    private void lost() {
        s.says(TERMS, "a draw; if its rest by 100 is below LOSS, the letter is lost (LOST 1 more);");
        for (int seed = -3; seed <= 3; seed++) {
            int rest = restOfDraw(seed, 1);
            for (int loss = rest; loss <= rest + 1; loss++) {
                DuelLetters x = new DuelLetters();
                x.friend(5, 0, 0);
                x.rule(2, loss);
                x.seed(seed);
                boolean lost = loss == rest + 1;
                s.is(lost ? 0 : 1, x.posts(1), "rest " + rest + ", loss " + loss);
                s.is(lost ? 1 : 0, x.table(4), "lost: rest " + rest + ", loss " + loss);
                s.is(lost ? 5555 : 4555, x.table(3), "stands: rest " + rest + ", loss " + loss);
            }
        }
        DuelLetters x = new DuelLetters();
        x.friend(0, 0, 99);
        x.friend(0, 0, 0);
        x.rule(0, 20);
        x.rule(2, 100);
        s.is(0, x.posts(100), "all are lost by 100");
        s.is(200, x.table(4), "lost by 100");
        s.is(20, x.count(2), "a letter that is lost neither raises nor yields");
        x.rule(2, 0);
        x.rule(1, 99);
        x.posts(5);
        s.is(200, x.table(4), "none is lost by 0");
    }

    private void raises() {
        s.says(TERMS, "else if it RAISES: HEAT is to be 5 more;");
        DuelLetters x = Sentences.withoutLoss();
        x.friend(0, 0, 99);
        x.rule(0, 1);
        s.is(0, x.posts(1), "none yields");
        s.is(6, x.count(2), "5 more");
        s.is(0, x.told(0, 4), "yielded");
        s.is(5555, x.table(3), "stands");
        for (int i = 1; i < 8; i++) x.friend(0, i % 2, 99);
        x.posts(1);
        s.is(46, x.count(2), "eight times 5 more");
    }

    private void yields() {
        s.says(TERMS, "else, if there is a TERM it YIELDS: its STAND is to be 1 less (SIDE 0), 1 more (SIDE 1); "
                + "YIELDED is 1 more; HEAT is to be 1 less.");
        for (int side = 0; side < 2; side++) {
            DuelLetters x = Sentences.withoutLoss();
            x.friend(0, side, 0);
            x.rule(0, 9);
            s.is(1, x.posts(1), "one yields");
            s.is(side == 0 ? 4555 : 6555, x.table(3), "stands");
            s.is(1, x.told(0, 4), "yielded");
            s.is(8, x.count(2), "heat");
            for (int t = 0; t < 4; t++) x.stand(t, 9 * side);
            x.honour(side, 400);
            s.is(0, x.posts(1), "there is no term");
            s.is(1, x.told(0, 4), "yielded, without a term");
            s.is(2, x.told(0, 3), "sent, without a term");
            s.is(8, x.count(2), "heat stays without a term");
            s.is(9999 * side, x.table(3), "stands without a term");
        }
    }

    private void atOnce() {
        s.says(TERMS, "(2) All that comes about at once: each STAND by all that were yielded, together, held within 0 .. 9;");
        // three of a side first, then one of the other: held only in the end
        for (int side = 0; side < 2; side++) {
            DuelLetters x = Sentences.withoutLoss();
            for (int i = 0; i < 4; i++) x.friend(5, i < 3 ? side : 1 - side, 0);
            x.honour(0, 400);
            x.stand(0, side == 0 ? 1 : 8);
            s.is(4, x.posts(1), "four yield");
            s.is(side == 0 ? 555 : 9555, x.table(3), "1 - 3 + 1 is held at 0, 8 + 3 - 1 at 9");
            x.stand(0, side == 0 ? 2 : 7);
            x.posts(1);
            s.is(side == 0 ? 555 : 9555, x.table(3), "2 - 3 + 1 is 0, 7 + 3 - 1 is 9");
            x.stand(0, side == 0 ? 3 : 6);
            x.posts(1);
            s.is(side == 0 ? 1555 : 8555, x.table(3), "3 - 3 + 1 is 1, 6 + 3 - 1 is 8");
        }
        DuelLetters x = Sentences.withoutLoss();
        for (int i = 0; i < 8; i++) x.friend(5, 0, 0);
        x.stand(0, 9);
        x.honour(1, 400);
        x.posts(1);
        s.is(1555, x.table(3), "eight steps at once");
        x.posts(1);
        s.is(555, x.table(3), "eight steps from 1 on are held at 0");
        s.is(16, x.table(6), "all yielded all the same");
    }

    private void heatAtOnce() {
        s.says(TERMS, "HEAT likewise, held within 0 .. 99.");
        // one raises first, four yield then: 97 + 5 - 4
        DuelLetters x = Sentences.withoutLoss();
        x.friend(0, 0, 99);
        for (int i = 0; i < 4; i++) x.friend(5, 0, 0);
        x.honour(1, 400);
        x.rule(1, 99);
        x.rule(0, 97);
        x.posts(1);
        s.is(98, x.count(2), "97 + 5 - 4");
        // four yield first: 1 - 4 + 5
        x = Sentences.withoutLoss();
        for (int i = 0; i < 4; i++) x.friend(5, 0, 0);
        x.friend(0, 0, 99);
        x.honour(1, 400);
        x.rule(0, 1);
        x.posts(1);
        s.is(2, x.count(2), "1 - 4 + 5");
        // held in the end: two raise from 98 on; eight yield from 3 on
        x = Sentences.withoutLoss();
        x.friend(0, 0, 99);
        x.friend(0, 0, 99);
        x.rule(1, 99);
        x.rule(0, 98);
        x.posts(1);
        s.is(99, x.count(2), "98 + 10 is held at 99");
        x.turns(0, 5);
        x.turns(1, 5);
        x.rule(0, 1);
        x.posts(1);
        s.is(0, x.count(2), "1 - 2 is held at 0");
        x.rule(0, 2);
        x.posts(1);
        s.is(0, x.count(2), "2 - 2 is 0");

        s.says(TERMS, "THE POST is 1 more.");
        s.is(3, x.count(1), "three posts");
        x.posts(97);
        s.is(100, x.count(1), "a hundred posts");
    }

    private void draws() {
        s.says(TERMS, "z is told (1 at first).");
        s.is(1, new DuelLetters().count(8), "z at first");
        s.is(1, new DuelLetters().seed(5), "z at first");

        s.says(TERMS, "A draw: z becomes z * 1103515245 + 12345 (an int); it gives z >>> 8.");
        // with z below 0 behind the draw: z >> 8, or a rest below 0, would be another one
        for (int seed : new int[] {0, 1, 2, 3, 4, 5, -1, MIN, MAX}) {
            DuelLetters x = new DuelLetters();
            x.friend(5, 0, 0);
            x.seed(seed);
            int rest = restOfDraw(seed, 1);
            x.rule(2, rest);
            s.is(1, x.posts(1), "a draw that is not lost");
            s.is(seed * 1103515245 + 12345, x.count(8), "z");
            x.seed(seed);
            x.rule(2, Math.min(100, rest + 1));
            s.is(0, x.posts(1), "a draw that is lost");
            s.is(seed * 1103515245 + 12345, x.count(8), "z");
        }

        s.says(TERMS, "FRIENDS that are drawn: KIND the rest of a draw by 6, SIDE that of one more by 2, "
                + "PRIDE that of one more by 100.");
        for (int seed : new int[] {0, 1, 77, -1, MIN, MAX}) {
            DuelLetters x = new DuelLetters();
            x.seed(seed);
            x.deal(2);
            int z = seed;
            for (int i = 0; i < 6; i++) {
                z = z * 1103515245 + 12345;
                s.is((z >>> 8) % new int[] {6, 2, 100}[i % 3], x.told(i / 3, i % 3), "draw " + i + " from " + seed);
            }
        }
    }

    private static DuelLetters wants(int honour0, int honour1) {
        DuelLetters x = new DuelLetters();
        x.honour(0, honour0);
        x.honour(1, honour1);
        return x;
    }

    private void waysTaken() {
        s.says(TERMS, "TAKEN: of all 10000 ways in which the four TERMS can STAND how many there are with PEACE.");
        s.is(10000, wants(0, 0).taken(), "all");
        s.is(1, wants(36, 0).taken(), "9999 alone");
        s.is(1, wants(0, 36).taken(), "0000 alone");
        s.is(0, wants(37, 0).taken(), "none: 36 is the most");
        s.is(0, wants(0, 37).taken(), "none: 36 is the most");
        s.is(9999, wants(1, 0).taken(), "all but 0000");
        s.is(9999, wants(0, 1).taken(), "all but 9999");
        s.is(9998, wants(1, 1).taken(), "all but both");
        s.is(670, wants(18, 18).taken(), "stands that are 18 together");
    }

    private void fairestWay() {
        s.says(TERMS, "FAIREST: of these the one in which the lesser of what both HAVE above HONOUR is greatest;");
        s.is(99, wants(0, 0).terms(0), "18 and 18");
        s.is(9999, wants(36, 0).terms(0), "the only one");
        s.is(0, wants(0, 36).terms(0), "the only one");
        DuelLetters x = wants(2, 5);
        for (int t = 0; t < 4; t++) {
            x.care(0, t, t == 2 ? 4 : 0);
            x.care(1, t, t == 2 ? 3 : 0);
        }
        // term 2 at k: 4k - 2 and 22 - 3k: 10 and 13 at 3, 14 and 10 at 4
        s.is(30, x.terms(0), "the lesser is 10 at 3 and at 4: the least number");
        x.honour(1, 4);
        s.is(40, x.terms(0), "10 at 3, 11 at 4");
        x.honour(0, 6);
        // 4k - 6, 23 - 3k: 6 at 3, 10 at 4, 8 at 5
        s.is(40, x.terms(0), "10 at 4");
        x.honour(1, 0);
        // 4k - 6, 27 - 3k: 10 at 4, 12 at 5
        s.is(50, x.terms(0), "12 at 5");

        s.says(TERMS, "told as its four STANDS, TERM 0 the thousands; of several the least number.");
        x = wants(0, 0);
        int[] weights = {1000, 100, 10, 1};
        for (int t = 0; t < 4; t++) {
            for (int k = 0; k < 4; k++) {
                x.care(0, k, k == t ? 1 : 0);
                x.care(1, k, k == t ? 1 : 0);
            }
            // 4 and 5, or 5 and 4: the lesser is 4 both times; the other terms do not matter
            s.is(4 * weights[t], x.terms(0), "term " + t + " alone counts");
        }
        for (int k = 0; k < 4; k++) x.care(0, k, 0);
        s.is(0, x.terms(0), "nothing matters to side 0");
    }

    private void nearestWay() {
        s.says(TERMS, "NEAREST: of these the one that differs least from STANDS as they are (by how much each, together); "
                + "of several the least number.");
        s.is(5555, wants(0, 0).terms(1), "peace as it is");
        s.is(5555, wants(20, 16).terms(1), "peace as it is, just so");
        s.is(9999, wants(36, 0).terms(1), "the only one");
        s.is(0, wants(0, 36).terms(1), "the only one");
        s.is(4555, wants(19, 17).terms(1), "one step, of four alike the least number");
        s.is(5556, wants(21, 15).terms(1), "one step up: the least number is at the end");
        DuelLetters x = wants(21, 0);
        x.stand(3, 9);
        x.stand(0, 0);
        // 0559 is 19: two more; 0579, 0669, .. , 0579 is the least
        s.is(579, x.terms(1), "two steps, held within 9");
        // steps down and up count alike, whatever side cares for them
        x = wants(0, 0);
        x.care(0, 0, 9);
        x.honour(0, 61);
        // 9a + b + c + d is to be 61: from 60 on one step of any term will do: 5556 is the least
        s.is(5556, x.terms(1), "one step of any term");
        x.honour(0, 64);
        s.is(6555, x.terms(1), "one step of term 0 is nearer than four");
        // the first of all ways and the last one, each where others are taken too
        for (int stands : new int[] {0, 1, 9998, 9999}) {
            x = wants(0, 0);
            for (int t = 3, left = stands; t >= 0; t--, left /= 10) x.stand(t, left % 10);
            s.is(stands, x.terms(1), "peace as it is at " + stands);
        }
    }

    private void posts() {
        s.says(13, "n (1 .. 100) POSTS");
        DuelLetters x = Sentences.withoutLoss();
        x.friend(5, 0, 0);
        x.honour(1, 400);
        s.is(1, x.posts(1), "one post");
        s.is(1, x.count(1), "one post");
        s.is(19, x.posts(100), "a hundred posts, 19 steps are left");
        s.is(101, x.count(1), "a hundred posts more");
        s.is(101, x.told(0, 3), "a letter each");

        s.says(13, "(no more than up to 9999): how many YIELDED in them.");
        x = Sentences.withoutLoss();
        Sentences.goToPost(x, 9997);
        x.friend(5, 0, 0);
        x.friend(5, 0, 0);
        x.honour(1, 400);
        s.is(4, x.posts(3), "two posts are left, two yield in each");
        s.is(9999, x.count(1), "the last post");
        s.is(2, x.told(0, 3), "two letters");
        s.is(0, x.posts(100), "none is left");
        s.is(2, x.told(0, 3), "nothing is sent behind the last post");
        s.is(1555, x.table(3), "stands behind the last post");

        s.says(13, "BAD.");
        for (int n : new int[] {0, 101, -1, MIN, MAX}) s.is(BAD, x.posts(n), "posts(" + n + ") at the last post");
        x = new DuelLetters();
        for (int n : new int[] {0, 101, -1, MIN, MAX}) s.is(BAD, x.posts(n), "posts(" + n + ")");
        s.is(0, x.count(1), "the post behind refusals");
    }

    private void table() {
        s.says(14, "What SIDE 0 HAS (what 0), SIDE 1 (1), whether there is PEACE (2; 1, 0), STANDS as one number (3),");
        DuelLetters x = Sentences.withoutLoss();
        x.stand(0, 0);
        x.stand(1, 9);
        x.stand(3, 1);
        s.is(15, x.table(0), "side 0: 0 9 5 1");
        s.is(21, x.table(1), "side 1: 9 0 4 8");
        s.is(0, x.table(2), "no peace");
        s.is(951, x.table(3), "stands, a 0 ahead");
        x.honour(0, 15);
        s.is(1, x.table(2), "peace");

        s.says(14, "LOST (4), SENT of all (5), YIELDED of all (6).");
        x.honour(0, 400);
        for (int what = 4; what < 7; what++) s.is(0, x.table(what), "at first");
        for (int i = 0; i < 8; i++) x.friend(i < 3 ? 0 : 5, i % 2, 99);
        x.rule(0, 10);
        x.posts(1);
        // three raise, five yield; then all are lost
        x.rule(2, 100);
        x.posts(2);
        s.is(16, x.table(4), "lost");
        s.is(24, x.table(5), "sent of all");
        s.is(5, x.table(6), "yielded of all");

        s.says(14, "BAD.");
        for (int what : new int[] {-1, 7, MIN, MAX}) s.is(BAD, x.table(what), "table(" + what + ")");
    }

    private void taken() {
        s.says(15, "TAKEN.");
        DuelLetters x = wants(35, 0);
        s.is(5, x.taken(), "9999 and four one step from it");
        x.care(0, 3, 0);
        s.is(0, x.taken(), "27 is the most");
        x.honour(0, 27);
        s.is(10, x.taken(), "999 and anything");
        s.is(5555, x.table(3), "nothing is changed");
        s.is(0, x.care(0, 3, 0), "nothing is changed");
    }

    private void terms() {
        s.says(16, "FAIREST (what 0), NEAREST (1).");
        DuelLetters x = wants(10, 10);
        // spare 8 and 8 at 18 together; as it is 20 and 16 are enough
        s.is(99, x.terms(0), "fairest");
        s.is(5555, x.terms(1), "nearest");
        s.is(5555, x.table(3), "nothing is changed");

        s.says(16, "BAD; NONE: none is TAKEN.");
        for (int what : new int[] {-1, 2, MIN, MAX}) s.is(BAD, x.terms(what), "terms(" + what + ")");
        x = wants(18, 19);
        for (int what : new int[] {-1, 2, MIN, MAX}) s.is(BAD, x.terms(what), "terms(" + what + "): BAD stands first");
        s.is(NONE, x.terms(0), "none is taken, but for one");
        s.is(NONE, x.terms(1), "none is taken, but for one");
        x = wants(400, 400);
        s.is(NONE, x.terms(0), "none is taken, by far");
        s.is(NONE, x.terms(1), "none is taken, by far");
    }
}
