/** Promises 1 to 12: a new object, friends, terms, lots. Every number is worked out by hand from the document. */
public final class FriendsTest {
    private static final int BAD = DuelLetters.BAD, FULL = DuelLetters.FULL, NONE = DuelLetters.NONE,
            KIND = DuelLetters.KIND, NO = DuelLetters.NO, NOTHING = DuelLetters.NOTHING;
    private static final int MIN = Integer.MIN_VALUE, MAX = Integer.MAX_VALUE;
    private static final Due due = new Due();

    public static void main(String[] args) {
        newObject();
        friend();
        told();
        tones();
        yields();
        worths();
        as();
        turns();
        set();
        standCareHonour();
        rule();
        deal();
        seed();
        due.end();
    }

    private static void newObject() {
        due.promise(1);
        DuelLetters x = new DuelLetters();
        int[] counts = {0, 0, 0, 60, 10, 0, 0, 0, 1};
        for (int i = 0; i < counts.length; i++) due.is(counts[i], x.count(i), "count(" + i + ")");
        int[] table = {20, 16, 0, 5555, 0, 0, 0};
        for (int i = 0; i < table.length; i++) due.is(table[i], x.table(i), "table(" + i + ")");
        for (int side = 0; side < 2; side++) {
            due.is(20, x.honour(side, 20), "honour at first");
            for (int term = 0; term < 4; term++) due.is(1, x.care(side, term, 1), "care at first");
        }
        for (int term = 0; term < 4; term++) due.is(5, x.stand(term, 5), "stand at first");
        for (int key = 0; key < 3; key++) due.is(NONE, x.why(key), "why at first");
        for (int sheet = 0; sheet < 4; sheet++) due.is(NOTHING, x.pour(sheet), "a sheet at first");
        for (int slot = 0; slot < 5; slot++) due.is(NOTHING, x.item(slot, 0), "a slot at first");
        due.is(0, x.fee(), "fee at first");
        due.is(NO, x.back(), "back at first");
        due.is(BAD, x.told(0, 0), "no friend at first");
    }

    private static void friend() {
        due.promise(2);
        DuelLetters x = new DuelLetters();
        int[][] bad = {{-1, 0, 0}, {6, 0, 0}, {0, -1, 0}, {0, 2, 0}, {0, 0, -1}, {0, 0, 100}, {MIN, 0, 0}, {MAX, 0, 0}, {0, MAX, 0}, {0, 0, MIN}};
        for (int[] b : bad) due.is(BAD, x.friend(b[0], b[1], b[2]), "friend with a wrong number");
        due.is(0, x.count(0), "friends that were refused");
        for (int i = 0; i < 8; i++) due.is(i, x.friend(i % 6, i % 2, i == 0 ? 99 : i == 1 ? 0 : 12 * i), "friend");
        due.is(FULL, x.friend(0, 0, 0), "a ninth friend");
        due.is(BAD, x.friend(0, 0, 100), "a ninth friend, wrong: BAD stands first");
        due.is(8, x.count(0), "friends");
        due.is(84, x.told(7, 2), "pride of the last friend");
    }

    private static void told() {
        due.promise(3);
        DuelLetters x = new DuelLetters();
        x.friend(2, 1, 33);
        int[] answers = {2, 1, 33, 0, 0, 8, 0, 66};
        for (int i = 0; i < answers.length; i++) due.is(answers[i], x.told(0, i), "told(0, " + i + ")");
        x.rule(2, 0);
        x.posts(1);
        due.is(1, x.told(0, 3), "sent behind a post");
        due.is(1, x.told(0, 4), "yielded behind a post");
        x.rule(2, 100);
        x.posts(1);
        due.is(2, x.told(0, 3), "a letter that is lost was sent");
        due.is(1, x.told(0, 4), "a letter that is lost does not yield");
        for (int f : new int[] {-1, 1, 8, MIN, MAX}) due.is(BAD, x.told(f, 0), "told of no friend");
        for (int w : new int[] {-1, 8, MIN, MAX}) due.is(BAD, x.told(0, w), "told of no such thing");
    }

    /** Friends of each kind, numbered as the kinds, of one side and pride. */
    private static DuelLetters sixKinds(int side, int pride) {
        DuelLetters x = new DuelLetters();
        for (int kind = 0; kind < 6; kind++) x.friend(kind, side, pride);
        return x;
    }

    private static void tonesAre(DuelLetters x, int... tones) {
        for (int kind = 0; kind < 6; kind++) due.is(tones[kind], x.told(kind, 5), "tone of kind " + kind);
    }

    private static void tones() {
        DuelLetters x = sixKinds(0, 41);
        tonesAre(x, 20, 40, 10, 40, 0, 0);
        x.rule(0, 39);
        tonesAre(x, 40, 60, 20, 60, 10, 0);
        x.rule(0, 40);
        tonesAre(x, 40, 60, 20, 0, 10, 0);
        x = sixKinds(0, 99);
        x.rule(0, 99);
        tonesAre(x, 99, 99, 49, 0, 39, 0);
        Due.tell(x, "tone p + h * 1000");
        tonesAre(x, 99, 99, 49, 0, 39, 0);
        Due.tell(x, "tone 0 - p");
        tonesAre(x, 0, 20, 0, 0, 0, 0);
        Due.tell(x, "tone 39 + s");
        x.rule(0, 0);
        tonesAre(x, 39, 59, 19, 59, 9, 0);
        x.posts(3);
        Due.tell(x, "tone 0 + s * 10");
        tonesAre(x, 30, 50, 15, 50, 5, 0);
    }

    private static void yieldsAre(DuelLetters x, int... terms) {
        for (int kind = 0; kind < 6; kind++) due.is(terms[kind], x.told(kind, 6), "term of kind " + kind);
    }

    private static void yields() {
        // what its own side cares for, and what the other one does
        int[][] cares = {{4, 2, 7, 2}, {6, 8, 3, 5}};
        for (int side = 0; side < 2; side++) {
            DuelLetters x = sixKinds(side, 50);
            yieldsAre(x, 0, 0, 0, 0, 0, 0);
            for (int t = 0; t < 4; t++) {
                x.care(side, t, cares[0][t]);
                x.care(1 - side, t, cares[1][t]);
            }
            yieldsAre(x, 1, 2, 1, 2, 1, 2);
            int stuck = side == 0 ? 0 : 9;
            x.stand(1, stuck);
            yieldsAre(x, 3, 2, 3, 2, 0, 2);
            x.stand(2, stuck);
            yieldsAre(x, 3, 3, 3, 3, 0, 0);
            x.stand(3, stuck);
            yieldsAre(x, 0, 0, 0, 0, 0, 0);
            x.stand(0, stuck);
            yieldsAre(x, NONE, NONE, NONE, NONE, NONE, NONE);
            x.stand(3, side == 0 ? 1 : 8);
            yieldsAre(x, 3, 3, 3, 3, 3, 3);
            x.stand(3, 9 - stuck);
            yieldsAre(x, 3, 3, 3, 3, 3, 3);
        }
    }

    private static void worths() {
        DuelLetters x = sixKinds(0, 30);
        int[] of30 = {30, 34, 69, 68, 60, 7};
        for (int kind = 0; kind < 6; kind++) due.is(of30[kind], x.told(kind, 7), "worth of kind " + kind);
        x = sixKinds(1, 99);
        int[] of99 = {99, 103, 0, 206, -9, 7};
        for (int kind = 0; kind < 6; kind++) due.is(of99[kind], x.told(kind, 7), "worth of kind " + kind);
    }

    private static void as() {
        due.promise(4);
        DuelLetters x = sixKinds(1, 17);
        boolean[][] under = {
            {true, false, false, false, false, false}, {true, true, false, false, false, false},
            {true, false, true, false, false, false}, {true, true, false, true, false, false},
            {true, false, true, false, true, false}, {true, false, false, false, false, true}};
        for (int f = 0; f < 6; f++) {
            for (int kind = 0; kind < 6; kind++) {
                due.is(under[f][kind] ? 17 : KIND, x.as(f, kind), "as(" + f + ", " + kind + ")");
            }
        }
        for (int bad : new int[] {-1, 6, MIN, MAX}) {
            due.is(BAD, x.as(bad, 0), "as of no friend");
            due.is(BAD, x.as(0, bad), "as of no kind");
        }
    }

    private static void turns() {
        due.promise(5);
        DuelLetters x = new DuelLetters();
        x.friend(4, 1, 12);
        x.rule(2, 0);
        x.posts(2);
        due.is(4, x.turns(0, 1), "turns");
        due.is(1, x.told(0, 0), "kind behind turns");
        due.is(1, x.told(0, 1), "side behind turns");
        due.is(12, x.told(0, 2), "pride behind turns");
        due.is(2, x.told(0, 3), "sent behind turns");
        due.is(2, x.told(0, 4), "yielded behind turns");
        due.is(26, x.told(0, 5), "tone behind turns");
        due.is(12, x.as(0, 1), "as behind turns");
        due.is(1, x.turns(0, 1), "turns to what it is");
        for (int bad : new int[] {-1, 6, MIN, MAX}) {
            due.is(BAD, x.turns(0, bad), "turns to no kind");
            due.is(BAD, x.turns(bad, 0), "turns of no friend");
        }
        due.is(1, x.told(0, 0), "kind behind a refusal");
    }

    private static void set() {
        due.promise(6);
        DuelLetters x = new DuelLetters();
        x.friend(0, 1, 12);
        due.is(1, x.set(0, 1, 0), "set side");
        due.is(0, x.set(0, 1, 1), "set side back");
        due.is(12, x.set(0, 2, 99), "set pride");
        due.is(99, x.set(0, 2, 0), "set pride to 0");
        due.is(0, x.told(0, 2), "pride then");
        due.is(1, x.told(0, 1), "side then");
        int[][] bad = {{0, 0, 0}, {0, 3, 0}, {0, -1, 0}, {0, 1, 2}, {0, 1, -1}, {0, 2, 100}, {0, 2, -1}, {1, 1, 0}, {-1, 2, 0}, {MIN, MIN, MIN}, {MAX, MAX, MAX}};
        for (int[] b : bad) due.is(BAD, x.set(b[0], b[1], b[2]), "set with a wrong number");
        due.is(0, x.told(0, 2), "pride behind refusals");
    }

    private static void standCareHonour() {
        DuelLetters x = new DuelLetters();
        due.promise(7);
        due.is(5, x.stand(3, 9), "stand");
        due.is(9, x.stand(3, 0), "stand");
        due.is(5550, x.table(3), "stands");
        int[][] bad = {{-1, 0}, {4, 0}, {0, -1}, {0, 10}, {MIN, MAX}, {MAX, 0}};
        for (int[] b : bad) due.is(BAD, x.stand(b[0], b[1]), "stand with a wrong number");
        due.is(5550, x.table(3), "stands behind refusals");

        due.promise(8);
        due.is(1, x.care(0, 2, 9), "care");
        due.is(9, x.care(0, 2, 0), "care");
        due.is(1, x.care(1, 2, 8), "care of the other side is its own");
        due.is(10, x.table(0), "what side 0 has: 5 + 5 + 0 + 0");
        due.is(49, x.table(1), "what side 1 has: 4 + 4 + 32 + 9");
        int[][] wrong = {{-1, 0, 0}, {2, 0, 0}, {0, -1, 0}, {0, 4, 0}, {0, 0, -1}, {0, 0, 10}, {MAX, MAX, MAX}, {MIN, MIN, MIN}, {1, -1, 0}};
        for (int[] b : wrong) due.is(BAD, x.care(b[0], b[1], b[2]), "care with a wrong number");

        due.promise(9);
        due.is(20, x.honour(0, 400), "honour");
        due.is(400, x.honour(0, 0), "honour");
        due.is(20, x.honour(1, 50), "honour of the other side is its own");
        int[][] none = {{-1, 0}, {2, 0}, {0, -1}, {0, 401}, {MIN, 0}, {0, MAX}};
        for (int[] b : none) due.is(BAD, x.honour(b[0], b[1]), "honour with a wrong number");
        due.is(0, x.honour(0, 10), "honour behind refusals");
        due.is(0, x.table(2), "no peace: side 1 has 49 of 50");
        x.honour(1, 49);
        due.is(1, x.table(2), "peace: 10 of 10, 49 of 49");
        x.honour(0, 11);
        due.is(0, x.table(2), "no peace: side 0 has 10 of 11");
    }

    private static void rule() {
        due.promise(10);
        DuelLetters x = new DuelLetters();
        due.is(0, x.rule(0, 99), "heat");
        due.is(99, x.rule(0, 7), "heat");
        due.is(60, x.rule(1, 99), "duel");
        due.is(99, x.rule(1, 1), "duel");
        due.is(10, x.rule(2, 100), "loss");
        due.is(100, x.rule(2, 0), "loss");
        due.is(7, x.count(2), "heat then");
        due.is(1, x.count(3), "duel then");
        due.is(0, x.count(4), "loss then");
        int[][] bad = {{0, -1}, {0, 100}, {1, 0}, {1, 100}, {2, -1}, {2, 101}, {3, 1}, {-1, 1}, {MIN, 1}, {MAX, 1}, {0, MAX}};
        for (int[] b : bad) due.is(BAD, x.rule(b[0], b[1]), "rule with a wrong number");
        due.is(0, x.rule(0, 0) - 7, "heat behind refusals");
        due.is(1, x.rule(1, 60), "duel behind refusals");
        due.is(0, x.rule(2, 10), "loss behind refusals");
    }

    private static void deal() {
        due.promise(11);
        DuelLetters x = new DuelLetters();
        x.friend(5, 1, 1);
        // the lot told here once more, by longs
        long z = 1;
        int[][] drawn = new int[7][3];
        int[] by = {6, 2, 100};
        for (int i = 0; i < 21; i++) {
            z = (z * 1103515245L + 12345L) & 0xffffffffL;
            drawn[i / 3][i % 3] = (int) ((z >> 8) % by[i % 3]);
        }
        due.is(3, x.deal(3), "deal");
        due.is(4, x.deal(8), "deal: room for four");
        for (int i = 0; i < 7; i++) {
            for (int what = 0; what < 3; what++) due.is(drawn[i][what], x.told(i + 1, what), "a friend that was drawn");
            due.is(0, x.told(i + 1, 3), "sent of a friend that was drawn");
        }
        due.is((int) z, x.count(8), "z behind 21 draws: none for those that found no room");
        due.is(0, x.deal(1), "deal without room");
        due.is((int) z, x.count(8), "z then");
        for (int n : new int[] {0, 9, -1, MIN, MAX}) due.is(BAD, x.deal(n), "deal of a wrong number");
    }

    private static void seed() {
        due.promise(12);
        DuelLetters x = new DuelLetters();
        due.is(1, x.seed(MIN), "seed");
        due.is(MIN, x.seed(-5), "seed");
        due.is(-5, x.count(8), "z");
        x.seed(0);
        x.deal(1);
        // z: 12345; 12345 * 1103515245 + 12345 cut to an int, and once more
        int second = 12345 * 1103515245 + 12345;
        int third = second * 1103515245 + 12345;
        due.is((12345 >>> 8) % 6, x.told(0, 0), "kind by the first draw");
        due.is((second >>> 8) % 2, x.told(0, 1), "side by the second");
        due.is((third >>> 8) % 100, x.told(0, 2), "pride by the third");
        due.is(third, x.count(8), "z behind three draws");
    }
}
