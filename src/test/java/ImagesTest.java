/** Promises 39 to 43: numbers that wait, images, counts. Worked out by hand from the document. */
public final class ImagesTest {
    private static final int BAD = DuelLetters.BAD, FULL = DuelLetters.FULL, NO = DuelLetters.NO,
            NONE = DuelLetters.NONE;
    private static final int MIN = Integer.MIN_VALUE, MAX = Integer.MAX_VALUE;
    private static final Due due = new Due();

    public static void main(String[] args) {
        tell();
        check();
        checkByTheImage();
        checkAtTheLastPost();
        keepAndBack();
        backLeavesTheRest();
        count();
        due.end();
    }

    private static void tell() {
        due.promise(39);
        DuelLetters x = new DuelLetters();
        for (int i = 1; i <= 60; i++) due.is(i, x.tell(i % 2 == 0 ? MIN : NONE), "tell");
        due.is(FULL, x.tell(1), "60 wait");
        due.is(60, x.count(6), "numbers that wait");
        x.check(1);
        due.is(1, x.tell(1), "none waited any more");
    }

    /** One friend of side 0 that yields a step a post: 4555 19, 3555 18, 2555 17, .. */
    private static DuelLetters oneStepAPost() {
        DuelLetters x = new DuelLetters();
        x.rule(2, 0);
        x.honour(0, 400);
        x.friend(0, 0, 10);
        x.rule(0, 20);
        return x;
    }

    private static int checked(DuelLetters x, int n, int... numbers) {
        for (int v : numbers) x.tell(v);
        int answer = x.check(n);
        due.is(0, x.count(6), "none wait then");
        return answer;
    }

    private static void check() {
        due.promise(40);
        DuelLetters x = oneStepAPost();
        due.is(NO, checked(x, 1, 4555, 19), "no image");
        due.is(BAD, checked(x, 0, 4555, 19), "BAD stands ahead of NO");
        x.keep();
        due.is(0, checked(x, 1, 4555, 19), "one post");
        due.is(0, checked(x, 3, 4555, 19, 3555, 18, 2555, 17), "three posts");
        due.is(1, checked(x, 1, 4556, 19), "the first is not");
        due.is(2, checked(x, 1, 4555, 20), "the second is not");
        due.is(4, checked(x, 3, 4555, 19, 3555, 19, 2555, 17), "the fourth is not");
        due.is(6, checked(x, 3, 4555, 19, 3555, 18, 2555, 18), "the sixth is not");
        due.is(1, checked(x, 1), "the first is missing");
        due.is(2, checked(x, 1, 4555), "the second is missing");
        due.is(5, checked(x, 3, 4555, 19, 3555, 18), "the fifth is missing");
        due.is(3, checked(x, 1, 4555, 19, 3555), "one too many");
        due.is(3, checked(x, 1, 4555, 19, 3555, 18), "two too many");
        due.is(2, checked(x, 1, 4555, 0, 3555, 18), "one that is not, ahead of too many");
        for (int n : new int[] {0, 31, -1, MIN, MAX}) due.is(BAD, checked(x, n, 4555, 19), "check of a wrong number");
        int[] all = new int[60];
        for (int k = 1; k <= 30; k++) {
            all[2 * k - 2] = x.behind(k, 1);
            all[2 * k - 1] = x.behind(k, 0);
        }
        due.is(0, checked(x, 30, all), "thirty posts");
        all[59]++;
        due.is(60, checked(x, 30, all), "the last is not");
        due.is(5555, x.table(3), "nothing is changed");
        due.is(0, x.told(0, 3), "nothing is changed");
    }

    private static void checkByTheImage() {
        DuelLetters x = oneStepAPost();
        x.keep();
        x.posts(3);
        x.turns(0, 1);
        x.rule(0, 50);
        Due.tell(x, "tone 99");
        due.is(0, checked(x, 2, 4555, 19, 3555, 18), "by the image, not as it is now");
        due.is(2555, x.table(3), "all stays as it is now");
        x.keep();
        due.is(0, checked(x, 1, 2555, 55), "by the new image, its text too");
        due.is(0, checked(x, 3, 2555, 55, 2555, 60, 2555, 60), "the duel stops it");
    }

    private static void checkAtTheLastPost() {
        DuelLetters x = oneStepAPost();
        x.honour(0, 0);
        x.honour(1, 0);
        for (int i = 0; i < 99; i++) x.posts(100);
        x.posts(98);
        x.honour(0, 400);
        x.keep();
        due.is(0, checked(x, 30, 4555, 19), "one post alone");
        due.is(3, checked(x, 2, 4555, 19, 3555, 18), "too many");
        x.posts(1);
        x.keep();
        due.is(0, checked(x, 1), "no post is left");
        due.is(1, checked(x, 1, 3555, 18), "too many");
    }

    private static String all(DuelLetters x) {
        StringBuilder b = new StringBuilder();
        for (int i = 0; i < 9; i++) if (i < 6 || i > 7) b.append(x.count(i)).append(' ');
        for (int i = 0; i < 7; i++) b.append(x.table(i)).append(' ');
        for (int f = 0; f < x.count(0); f++) {
            for (int i = 0; i < 8; i++) b.append(x.told(f, i)).append(' ');
            b.append(x.fine(f)).append(' ');
        }
        for (int i = 0; i < 3; i++) b.append(x.why(i)).append(' ');
        for (int i = 0; i < x.count(5); i++) b.append(x.textTold(i, 0)).append(x.textTold(i, 1)).append(' ');
        b.append(x.fee()).append(' ').append(x.taken()).append(' ').append(x.terms(0)).append(' ').append(x.behind(9, 1));
        return b.toString();
    }

    private static void changeAll(DuelLetters x) {
        for (int i = 0; i < 4; i++) {
            x.stand(i, 2 + i);
            x.care(0, i, 3 * i % 10);
            x.care(1, i, 9 - i);
        }
        x.honour(0, 77);
        x.honour(1, 11);
        x.rule(0, 45);
        x.rule(1, 44);
        x.rule(2, 33);
        x.turns(0, 4);
        x.set(0, 1, 1);
        x.set(0, 2, 66);
        x.friend(3, 0, 50);
        x.seed(4242);
        Due.tell(x, "tone p*2");
        Due.tell(x, "fee l*l+7");
        Due.tell(x, "fine y-n*3");
    }

    private static void keepAndBack() {
        due.promise(41);
        DuelLetters x = new DuelLetters();
        due.is(NO, x.back(), "no image");
        due.is(0, x.keep(), "an image without friends");
        x.friend(0, 0, 40);
        x.friend(1, 1, 90);
        x.rule(2, 50);
        x.posts(5);
        Due.tell(x, "fine y*100+n");
        due.is(2, x.keep(), "how many friends");
        String kept = all(x);
        changeAll(x);
        String changed = all(x);
        due.isTrue(!kept.equals(changed), "all is changed");
        due.promise(42);
        due.is(2, x.back(), "how many friends");
        due.isTrue(kept.equals(all(x)), "all is as it was");
        x.posts(9);
        changeAll(x);
        due.is(2, x.back(), "again");
        due.isTrue(kept.equals(all(x)), "all is as it was, again");
        changeAll(x);
        x.rule(0, 1);
        due.is(3, x.keep(), "a new image");
        kept = all(x);
        x.friend(5, 1, 5);
        due.is(3, x.back(), "the new image counts");
        due.isTrue(kept.equals(all(x)), "all is as in the new image");
        // a friend that came behind the image is new again
        x.friend(5, 1, 5);
        due.is(0, x.told(3, 3), "sent of a new friend");
        due.is(0, x.told(3, 4), "yielded of a new friend");
    }

    private static void backLeavesTheRest() {
        DuelLetters x = new DuelLetters();
        x.keep();
        x.sheet(0, 0, 1);
        x.mark(0, 0, 7);
        x.lay(0, 3, 9);
        x.tell(5);
        Due.feed(x, "tone 1");
        due.is(0, x.back(), "back");
        due.is(1, x.count(6), "numbers that wait stay");
        due.is(6, x.count(7), "the tape stays");
        due.is(1, x.pour(0), "a sheet stays");
        due.is(4, x.rest(0, 5), "a slot stays");
        due.is(0, x.text(), "the tape stays");
    }

    private static void count() {
        due.promise(43);
        DuelLetters x = new DuelLetters();
        x.friend(0, 0, 0);
        x.friend(0, 1, 0);
        x.honour(0, 0);
        x.honour(1, 0);
        x.posts(3);
        x.rule(0, 4);
        x.rule(1, 5);
        x.rule(2, 6);
        for (int i = 0; i < 7; i++) Due.tell(x, "fee 1");
        for (int i = 0; i < 8; i++) x.tell(1);
        Due.feed(x, "123456789");
        x.seed(10);
        int[] counts = {2, 3, 4, 5, 6, 7, 8, 9, 10};
        for (int i = 0; i < 9; i++) due.is(counts[i], x.count(i), "count(" + i + ")");
        for (int w : new int[] {-1, 9, MIN, MAX}) due.is(BAD, x.count(w), "count of no such thing");
    }
}
