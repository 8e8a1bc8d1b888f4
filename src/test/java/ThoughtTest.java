/** Promises 17 to 24: what will be. Worked out by hand from the document. */
public final class ThoughtTest {
    private static final int BAD = DuelLetters.BAD, NONE = DuelLetters.NONE, NOTHING = DuelLetters.NOTHING;
    private static final int MIN = Integer.MIN_VALUE, MAX = Integer.MAX_VALUE;
    private static final Due due = new Due();

    public static void main(String[] args) {
        behind();
        ends();
        held();
        cool();
        bought();
        cared();
        fee();
        fine();
        due.end();
    }

    private static DuelLetters withoutLoss() {
        DuelLetters x = new DuelLetters();
        x.rule(2, 0);
        return x;
    }

    /** All that can be told of an object and its friends, as one text. */
    private static String all(DuelLetters x) {
        StringBuilder b = new StringBuilder();
        for (int i = 0; i < 9; i++) b.append(x.count(i)).append(' ');
        for (int i = 0; i < 7; i++) b.append(x.table(i)).append(' ');
        for (int f = 0; f < x.count(0); f++) {
            for (int i = 0; i < 8; i++) b.append(x.told(f, i)).append(' ');
        }
        return b.toString();
    }

    private static void behind() {
        due.promise(17);
        DuelLetters x = withoutLoss();
        x.friend(0, 0, 10);
        x.rule(0, 20);
        String was = all(x);
        int[][] rows = {{0, 20, 5555}, {1, 19, 4555}, {5, 15, 555}, {20, 0, 0}, {100, 0, 0}};
        for (int[] r : rows) {
            due.is(r[1], x.behind(r[0], 0), "heat behind " + r[0]);
            due.is(r[2], x.behind(r[0], 1), "stands behind " + r[0]);
            due.is(0, x.behind(r[0], 2), "peace behind " + r[0]);
            due.is(0, x.behind(r[0], 3), "lost behind " + r[0]);
        }
        due.isTrue(was.equals(all(x)), "a thought changes nothing");
        x.honour(0, 18);
        x.honour(1, 18);
        due.is(0, x.behind(1, 2), "no peace behind 1");
        due.is(1, x.behind(2, 2), "peace behind 2");
        due.is(1, x.behind(100, 2), "peace stays");
        due.is(3555, x.behind(100, 1), "stands stay in peace");
        x.rule(2, 100);
        due.is(100, x.behind(100, 3), "all are lost");
        x.posts(3);
        due.is(5, x.behind(2, 3), "lost before counts too");
        for (int n : new int[] {-1, 101, MIN, MAX}) due.is(BAD, x.behind(n, 0), "behind a wrong number");
        for (int w : new int[] {-1, 4, MIN, MAX}) due.is(BAD, x.behind(0, w), "behind of no such thing");
        // what is thought comes about
        x = new DuelLetters();
        x.seed(5);
        x.deal(6);
        x.honour(0, 60);
        int[] thought = new int[4];
        for (int i = 0; i < 4; i++) thought[i] = x.behind(17, i);
        x.posts(17);
        due.is(thought[0], x.count(2), "heat that was thought");
        due.is(thought[1], x.table(3), "stands that were thought");
        due.is(thought[2], x.table(2), "peace that was thought");
        due.is(thought[3], x.table(4), "lost that was thought");
    }

    private static void ends() {
        due.promise(18);
        DuelLetters x = withoutLoss();
        due.is(NONE, x.ends(0), "no friends, no end");
        due.is(NONE, x.ends(1), "no friends, no end");
        x.friend(0, 0, 10);
        x.honour(0, 18);
        x.honour(1, 18);
        due.is(2, x.ends(0), "peace behind two");
        due.is(1, x.ends(1), "peace");
        x.honour(0, 36);
        x.turns(0, 1);
        x.set(0, 2, 60);
        // tone (60 + 0) / 2 + 20 = 50 raises: 5, 10, .. 60
        due.is(12, x.ends(0), "a duel behind twelve");
        due.is(2, x.ends(1), "a duel");
        x.rule(0, 60);
        due.is(0, x.ends(0), "a duel now");
        due.is(2, x.ends(1), "a duel now");
        x.honour(0, 20);
        x.honour(1, 16);
        due.is(0, x.ends(0), "peace now");
        due.is(1, x.ends(1), "peace stands ahead of a duel");
        due.is(60, x.count(2), "nothing is changed");
        for (int w : new int[] {-1, 2, MIN, MAX}) due.is(BAD, x.ends(w), "ends of no such thing");
        // the 200th post is the last that counts: the letter that raises is the 200th, or the 201st
        for (int first = 200; first <= 201; first++) {
            x = withoutLoss();
            x.friend(0, 0, 0);
            x.rule(1, 5);
            x.honour(0, 400);
            Due.tell(x, "tone 60 * (s > " + (first - 1) + ")");
            due.is(first == 200 ? 200 : NONE, x.ends(0), "a duel behind " + first);
            due.is(first == 200 ? 2 : NONE, x.ends(1), "a duel behind " + first);
        }
    }

    private static void held() {
        due.promise(19);
        DuelLetters x = withoutLoss();
        due.is(0, x.held(1), "no friends");
        x.friend(5, 0, 0);
        x.friend(1, 1, 99);
        x.honour(0, 18);
        x.honour(1, 18);
        // the bribed one of side 0 makes peace behind two posts, with the hot one or without: it raises 5 each
        due.is(0, x.held(2), "there is peace with all");
        due.is(0, x.held(1), "there is none without either");
        x.rule(0, 57);
        // with the hot one heat is 57 + 5 - 1 behind one post, and the duel is there
        due.is(2, x.held(2), "peace without the hot one");
        due.is(2, x.held(60), "peace without the hot one");
        x.friend(5, 1, 0);
        // with one of side 1 that takes each step back there is never peace
        due.is(0, x.held(60), "one held back is not enough");
        x.rule(0, 0);
        x.set(1, 1, 0);
        x.set(1, 2, 0);
        // three friends yield now: two down (tone 20 of the hot one), one up: one down a post, peace behind two
        due.is(0, x.held(2), "peace with all");
        // behind one post: 2 down without the one of side 1
        due.is(4, x.held(1), "peace without the one of side 1");
        for (int n : new int[] {0, 61, -1, MIN, MAX}) due.is(BAD, x.held(n), "held for a wrong number");
        heldDraws();
    }

    /** Letters that are held back take no draw: then the second friend has the draw that was the first one's. */
    private static void heldDraws() {
        int seed = 0;
        int z1 = 0;
        int z2 = 0;
        // the first draw is kept, the second is lost
        for (boolean found = false; !found; seed++) {
            z1 = seed * 1103515245 + 12345;
            z2 = z1 * 1103515245 + 12345;
            found = (z1 >>> 8) % 100 >= 50 && (z2 >>> 8) % 100 < 50;
        }
        DuelLetters x = new DuelLetters();
        x.friend(5, 1, 0);
        x.friend(5, 0, 0);
        x.honour(0, 19);
        x.honour(1, 17);
        x.rule(2, 50);
        x.seed(seed - 1);
        due.is(6555, x.behind(1, 1), "the first yields, the second's letter is lost");
        due.is(1, x.held(1), "without the first the second yields to 4555: peace");
        due.is(0, x.told(1, 3), "nothing is changed");
    }

    private static void cool() {
        due.promise(20);
        DuelLetters x = withoutLoss();
        due.is(NONE, x.cool(40), "with none");
        x.friend(0, 0, 11);
        x.honour(0, 18);
        x.honour(1, 18);
        // one friend yields as long as (11 + heat) / 2 is below 50; heat is to be below duel
        due.is(59, x.cool(2), "below the duel");
        due.is(NONE, x.cool(1), "not behind one post");
        x.rule(1, 99);
        due.is(88, x.cool(2), "tone 49 at heat 88");
        due.is(88, x.cool(40), "tone 49 at heat 88");
        due.is(0, x.count(2), "nothing is changed");
        x.honour(0, 20);
        x.honour(1, 16);
        due.is(99, x.cool(1), "peace now, with any heat");
        // a secret one yields from 40 on; below it raises
        x = withoutLoss();
        x.friend(3, 0, 99);
        x.honour(0, 19);
        x.honour(1, 17);
        due.is(59, x.cool(1), "a secret one, hot enough");
        x.rule(1, 40);
        due.is(NONE, x.cool(1), "a secret one, duel at 40");
        due.is(NONE, x.cool(40), "a secret one, duel at 40");
        x.set(0, 2, 0);
        due.is(39, x.cool(1), "a secret one without pride");
        // only heat 0 will do
        x = withoutLoss();
        x.friend(0, 0, 99);
        x.honour(0, 19);
        x.honour(1, 17);
        due.is(0, x.cool(1), "heat 0 alone");
        for (int n : new int[] {0, 41, -1, MIN, MAX}) due.is(BAD, x.cool(n), "cool for a wrong number");
    }

    private static void bought() {
        due.promise(21);
        DuelLetters x = withoutLoss();
        due.is(NONE, x.bought(1, 0), "no friends");
        due.is(NONE, x.bought(1, 1), "no friends");
        x.friend(0, 0, 0);
        x.care(0, 2, 3);
        x.honour(0, 400);
        // bribed it yields the term its side cares for most: 30 less 3
        due.is(0, x.bought(1, 0), "the only one");
        due.is(27, x.bought(1, 1), "what side 0 has");
        x.friend(0, 1, 0);
        x.care(1, 3, 2);
        // side 0 has 30, side 1 has 20; friend 0 bribed: term 2 down: 27, and friend 1 gives term 0 up: 28;
        // friend 1 bribed: term 3 up: 20 - 2, and friend 0 gives term 0 down: 19
        due.is(1, x.bought(1, 0), "of side 1");
        due.is(19, x.bought(1, 1), "what side 1 has");
        due.is(0, x.told(1, 0), "nothing is changed");
        // of several the least
        x = withoutLoss();
        x.friend(0, 1, 0);
        x.friend(0, 1, 0);
        due.is(0, x.bought(3, 0), "of several the least");
        // 16 less 2 each post
        due.is(10, x.bought(3, 1), "what side 1 has");
        // one that would raise else: bribed it yields
        x = withoutLoss();
        x.friend(0, 0, 0);
        x.friend(1, 0, 99);
        due.is(1, x.bought(2, 0), "the one that raises else");
        due.is(16, x.bought(2, 1), "20 less 4");
        for (int n : new int[] {0, 61, -1, MIN, MAX}) due.is(BAD, x.bought(n, 0), "bought for a wrong number");
        for (int w : new int[] {-1, 2, MIN, MAX}) due.is(BAD, x.bought(1, w), "bought of no such thing");
        due.is(BAD, new DuelLetters().bought(0, 0), "BAD stands ahead of NONE");
    }

    private static void cared() {
        due.promise(22);
        DuelLetters x = withoutLoss();
        x.friend(4, 1, 0);
        x.honour(0, 400);
        // the wise one of side 1 gives what side 0 cares for most: CARE 9 for term t lifts term t to 6
        for (int t = 0; t < 4; t++) {
            x.sheet(0, 0, 4);
            for (int k = 0; k < 4; k++) x.mark(0, k, k == t ? 6 : 5);
            due.is(t, x.cared(0, 0, 0), "cared for term " + t);
            due.is(0, x.cared(0, 0, 1), "no difference");
        }
        // side 1's care moves nothing: term 0 is lifted each time; of several the least
        due.is(0, x.cared(0, 1, 0), "of several the least");
        due.is(2, x.cared(0, 1, 1), "6555 from 5556");
        // differences without signs, of places that are numbers alone
        x.sheet(1, 1, 3);
        x.mark(1, 0, -10);
        x.mark(1, 1, NONE);
        x.mark(1, 2, 9);
        // lifted term 0: 16 + 4; term 1: 15 + 4; term 2: 15 + 3; term 3: 15 + 4
        due.is(2, x.cared(1, 0, 0), "term 2");
        due.is(18, x.cared(1, 0, 1), "15 and 3");
        x.sheet(2, 1, 0);
        due.is(0, x.cared(2, 0, 0), "no places");
        due.is(0, x.cared(2, 0, 1), "no places");
        // places beyond the fourth do not count
        x.sheet(2, 0, 6);
        for (int k = 0; k < 6; k++) x.mark(2, k, k < 4 ? 5 : 999);
        due.is(1, x.cared(2, 0, 1), "one step");
        due.is(5555, x.table(3), "nothing is changed");
        due.is(1, x.care(0, 0, 1), "nothing is changed");
        // with care 9 there is peace: nothing moves; honour 28 of side 0, 5 * 12 then
        x.honour(0, 28);
        x.honour(1, 10);
        due.is(0, x.cared(2, 0, 1), "peace by care 9");
        due.is(NOTHING, x.cared(3, 0, 0), "a missing sheet");
        for (int v : new int[] {-1, 4, MIN, MAX}) due.is(BAD, x.cared(v, 0, 0), "no sheet");
        for (int v : new int[] {-1, 2, MIN, MAX}) {
            due.is(BAD, x.cared(0, v, 0), "no side");
            due.is(BAD, x.cared(0, 0, v), "no such thing");
            due.is(BAD, x.cared(3, v, 0), "BAD stands ahead of NOTHING");
        }
    }

    private static void fee() {
        due.promise(23);
        DuelLetters x = new DuelLetters();
        x.friend(0, 0, 0);
        x.rule(2, 100);
        x.posts(4);
        due.is(4, x.fee(), "lost");
        Due.tell(x, "fee l * 100 - p");
        due.is(396, x.fee(), "by a text");
        x.honour(0, 0);
        x.honour(1, 0);
        x.posts(3);
        due.is(393, x.fee(), "the post goes on");
        Due.tell(x, "fee 0 - l");
        due.is(-4, x.fee(), "it is not held");
        Due.tell(x, "tone 1");
        due.is(-4, x.fee(), "another key's text");
    }

    private static void fine() {
        due.promise(24);
        DuelLetters x = withoutLoss();
        x.friend(5, 0, 0);
        x.friend(1, 0, 99);
        x.rule(2, 0);
        x.posts(3);
        due.is(3, x.fine(0), "yielded");
        due.is(0, x.fine(1), "yielded");
        Due.tell(x, "fine n * 10 - y");
        due.is(27, x.fine(0), "by a text");
        due.is(30, x.fine(1), "by a text");
        for (int f : new int[] {-1, 2, MIN, MAX}) due.is(BAD, x.fine(f), "fine of no friend");
    }
}
