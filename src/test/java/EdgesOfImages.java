/** The image of part 5 of the document's terms and promises 39 to 43, sentence by sentence. */
final class EdgesOfImages {
    private static final int BAD = Sentences.BAD, FULL = Sentences.FULL, NO = Sentences.NO, NONE = Sentences.NONE,
            MIN = Sentences.MIN, MAX = Sentences.MAX, TERMS = Sentences.TERMS;
    private final Sentences s;

    EdgesOfImages(Sentences s) {
        this.s = s;
    }

    void run() {
        image();
        postsTold();
        tell();
        check();
        checkFewer();
        checkElse();
        checkRefused();
        keep();
        back();
        count();
    }

    /** One bribed friend of side 0: behind the posts there are 4555 19, 3555 18, 2555 17, .. */
    private static DuelLetters oneStepAPost() {
        DuelLetters x = Sentences.withoutLoss();
        x.friend(5, 0, 0);
        x.honour(1, 400);
        x.rule(0, 20);
        return x;
    }

    private int checked(DuelLetters x, int n, int... numbers) {
        for (int v : numbers) x.tell(v);
        int answer = x.check(n);
        s.is(0, x.count(6), "none wait then");
        return answer;
    }

    /** Changes each of the things that an image keeps. */
    private static void changeAll(DuelLetters x) {
        for (int t = 0; t < 4; t++) {
            x.stand(t, t);
            x.care(0, t, 9 - t);
            x.care(1, t, 2 * t);
        }
        x.honour(0, 99);
        x.honour(1, 98);
        x.rule(0, 11);
        x.rule(1, 88);
        x.rule(2, 50);
        x.friend(1, 1, 77);
        x.turns(0, 3);
        x.set(0, 1, 1);
        x.set(0, 2, 64);
        x.seed(12321);
        x.posts(3);
        Due.tell(x, "tone p+1");
        Due.tell(x, "fee l+2");
        Due.tell(x, "fine y+3");
    }

    private void image() {
        s.says(TERMS, "AN IMAGE keeps all but SHEETS, SLOTS, numbers that wait, THE TAPE;");
        DuelLetters x = oneStepAPost();
        Due.tell(x, "fee l*2");
        x.rule(2, 30);
        x.posts(6);
        String was = Fingerprint.ofQuarrel(x);
        x.keep();
        changeAll(x);
        s.isTrue(!was.equals(Fingerprint.ofQuarrel(x)), "all is changed");
        Sentences.marked(x, 0, 0, 8);
        x.lay(0, 3, 9);
        x.tell(1);
        x.tell(2);
        Due.feed(x, "fee 123");
        x.back();
        s.same(was, Fingerprint.ofQuarrel(x), "all is as the image");
        s.is(2, x.count(6), "numbers that wait are not kept: they stay");
        s.is(7, x.count(7), "the tape is not kept: it stays");
        s.is(4, x.rest(0, 5), "a slot is not kept: it stays");
        s.is(1, x.mark(0, 0, 8), "a sheet is not kept: it stays");

        s.says(TERMS, "all can become as it is (again and again).");
        x = oneStepAPost();
        x.keep();
        was = Fingerprint.ofQuarrel(x);
        for (int i = 0; i < 3; i++) {
            changeAll(x);
            x.posts(1);
            x.back();
            s.same(was, Fingerprint.ofQuarrel(x), "again");
        }
        x.back();
        s.same(was, Fingerprint.ofQuarrel(x), "right behind another back");
    }

    private void postsTold() {
        s.says(TERMS, "THE POSTS TOLD: of n POSTS, one behind the other, by THE IMAGE: STANDS as one number; HEAT, behind each.");
        DuelLetters x = oneStepAPost();
        x.keep();
        // what is now does not count
        x.stand(0, 9);
        x.rule(0, 50);
        x.turns(0, 1);
        s.is(0, checked(x, 3, 4555, 19, 3555, 18, 2555, 17), "three posts by the image");
        s.is(9555, x.table(3), "now is as it was");
        s.is(50, x.count(2), "now is as it was");
        s.is(0, checked(x, 3, 4555, 19, 3555, 18, 2555, 17), "the image is as it was");
        // lots: by the image's z
        x = new DuelLetters();
        x.seed(99);
        x.deal(8);
        x.honour(0, 200);
        x.keep();
        int[] told = new int[12];
        for (int k = 0; k < 6; k++) {
            told[2 * k] = x.behind(k + 1, 1);
            told[2 * k + 1] = x.behind(k + 1, 0);
        }
        x.seed(5);
        s.is(0, checked(x, 6, told), "by the image's lots");
    }

    private void tell() {
        s.says(39, "One more number waits: how many.");
        DuelLetters x = new DuelLetters();
        int[] values = {0, -1, MIN, MAX, NONE, BAD};
        for (int i = 1; i <= 60; i++) s.is(i, x.tell(values[i % 6]), "number " + i);
        s.is(60, x.count(6), "sixty wait");

        s.says(39, "FULL: 60 wait.");
        s.is(FULL, x.tell(0), "a 61st");
        s.is(FULL, x.tell(0), "a 61st again");
        s.is(60, x.count(6), "sixty wait");
        x.check(1);
        s.is(1, x.tell(0), "room again");
    }

    private void check() {
        s.says(40, "The numbers that wait (none do then, whatever is answered)");
        DuelLetters x = oneStepAPost();
        s.is(NO, checked(x, 1, 4555, 19), "none wait behind NO");
        s.is(BAD, checked(x, 0, 4555, 19), "none wait behind BAD");
        x.keep();
        s.is(BAD, checked(x, 31, 4555, 19), "none wait behind BAD");
        s.is(0, checked(x, 1, 4555, 19), "none wait behind 0");
        s.is(1, checked(x, 1, 1, 1), "none wait behind 1");
        s.is(1, checked(x, 1), "none waited");

        s.says(40, "are THE POSTS TOLD of n (1 .. 30;");
        int[] all = new int[60];
        for (int k = 0; k < 30; k++) {
            all[2 * k] = x.behind(k + 1, 1);
            all[2 * k + 1] = x.behind(k + 1, 0);
        }
        s.is(0, checked(x, 30, all), "thirty posts");
        s.is(0, checked(x, 1, 4555, 19), "one post");
        s.is(BAD, checked(x, 31, all), "31");
        s.is(BAD, checked(x, 0), "0");
        all[59]++;
        s.is(60, checked(x, 30, all), "the last of sixty is not");
        all[0]++;
        s.is(1, checked(x, 30, all), "the first of sixty is not");
    }

    private void checkFewer() {
        s.says(40, "fewer, if THE POST would be above 9999), two by two: 0;");
        DuelLetters x = oneStepAPost();
        Sentences.goToPost(x, 9997);
        x.rule(0, 20);
        x.keep();
        s.is(0, checked(x, 2, 4555, 19, 3555, 18), "two are left");
        s.is(0, checked(x, 3, 4555, 19, 3555, 18), "three, two are left");
        s.is(0, checked(x, 30, 4555, 19, 3555, 18), "thirty, two are left");
        s.is(0, checked(x, 1, 4555, 19), "one of two");
        s.is(5, checked(x, 3, 4555, 19, 3555, 18, 2555, 17), "a third is too many");
        x.posts(1);
        s.is(0, checked(x, 30, 4555, 19, 3555, 18), "by the image's post, not the one of now");
        x.posts(1);
        x.keep();
        s.is(9999, x.count(1), "the last post");
        s.is(0, checked(x, 30), "none is left");
        s.is(1, checked(x, 1, 2555), "none is left, one is too many");
    }

    private void checkElse() {
        s.says(40, "else 1 and how many stand right ahead of the first that is not (or is missing, or one too many).");
        DuelLetters x = oneStepAPost();
        x.keep();
        int[] due = {4555, 19, 3555, 18};
        for (int wrong = 0; wrong < 4; wrong++) {
            int[] told = due.clone();
            told[wrong]++;
            s.is(1 + wrong, checked(x, 2, told), "number " + wrong + " is not");
            told[3] = 0;
            s.is(1 + wrong, checked(x, 2, told), "the first that is not");
        }
        for (int many = 0; many < 4; many++) {
            s.is(1 + many, checked(x, 2, java.util.Arrays.copyOf(due, many)), "the one behind " + many + " is missing");
        }
        s.is(5, checked(x, 2, 4555, 19, 3555, 18, 2555), "one too many");
        s.is(5, checked(x, 2, 4555, 19, 3555, 18, 2555, 17), "two too many");
        s.is(5, checked(x, 2, 4555, 19, 3555, 18, 0, 0, 0), "three too many");
        s.is(3, checked(x, 2, 4555, 19, 0, 18, 2555), "one that is not, ahead of too many");
        s.is(2, checked(x, 2, 4555, 0), "one that is not, ahead of a missing one");
    }

    private void checkRefused() {
        s.says(40, "BAD; NO: there is no IMAGE.");
        DuelLetters x = oneStepAPost();
        for (int n : new int[] {0, 31, -1, MIN, MAX}) s.is(BAD, checked(x, n, 1), "check(" + n + "): ahead of NO");
        s.is(NO, checked(x, 1, 4555, 19), "no image");
        s.is(NO, checked(x, 30), "no image");
        x.keep();
        for (int n : new int[] {0, 31, -1, MIN, MAX}) s.is(BAD, checked(x, n, 1), "check(" + n + ")");
        s.is(0, checked(x, 1, 4555, 19), "an image");
    }

    private void keep() {
        s.says(41, "AN IMAGE is kept: how many FRIENDS.");
        DuelLetters x = new DuelLetters();
        for (int i = 0; i <= 8; i++) {
            s.is(i, x.keep(), "with " + i + " friends");
            x.friend(0, 0, i);
        }
        s.is(8, x.keep(), "with eight");
        x.stand(0, 1);
        x.keep();
        x.stand(0, 2);
        x.back();
        s.is(1555, x.table(3), "the last image counts");
    }

    private void back() {
        s.says(42, "All is as THE IMAGE: how many FRIENDS.");
        DuelLetters x = new DuelLetters();
        x.keep();
        x.deal(8);
        s.is(0, x.back(), "none");
        s.is(0, x.count(0), "none");
        s.is(1, x.count(8), "z too");
        x.deal(8);
        x.keep();
        String was = Fingerprint.ofQuarrel(x);
        x.posts(40);
        s.is(8, x.back(), "eight");
        s.same(was, Fingerprint.ofQuarrel(x), "all is as it was");
        x = new DuelLetters();
        x.keep();
        x.friend(0, 0, 0);
        x.posts(1);
        x.back();
        x.friend(0, 1, 5);
        s.is(0, x.told(0, 3), "a new friend has sent nothing");
        s.is(0, x.told(0, 4), "a new friend has yielded nothing");
        s.is(0, x.count(1), "the post too");

        s.says(42, "NO: there is none.");
        x = new DuelLetters();
        x.friend(0, 0, 0);
        s.is(NO, x.back(), "no image");
        s.is(1, x.count(0), "friends behind a refusal");
        s.is(NO, x.back(), "still no image");
    }

    private void count() {
        s.says(43, "0 how many FRIENDS, 1 THE POST, 2 HEAT, 3 DUEL, 4 LOSS, 5 TEXTS, 6 numbers that wait, 7 bytes of THE TAPE, 8 z.");
        DuelLetters x = new DuelLetters();
        x.friend(0, 0, 0);
        x.rule(0, 99);
        x.posts(2);
        x.rule(0, 3);
        x.rule(1, 4);
        x.rule(2, 5);
        for (int i = 0; i < 6; i++) Due.tell(x, "fee 1");
        for (int i = 0; i < 7; i++) x.tell(0);
        Due.feed(x, "12345678");
        x.seed(9);
        for (int what = 0; what < 9; what++) s.is(what + 1, x.count(what), "count(" + what + ")");

        s.says(43, "BAD.");
        for (int what : new int[] {-1, 9, MIN, MAX}) s.is(BAD, x.count(what), "count(" + what + ")");
    }
}
