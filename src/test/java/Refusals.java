import java.util.function.ToIntFunction;

/** Every way in which a call can be refused, on an object that has something of everything: nothing is changed. */
final class Refusals {
    private static final int BAD = Sentences.BAD, NO = Sentences.NO, FULL = Sentences.FULL, NONE = Sentences.NONE,
            NOTHING = Sentences.NOTHING, KIND = Sentences.KIND, INDEX = Sentences.INDEX, SIZE = Sentences.SIZE;
    private final Sentences s;

    Refusals(Sentences s) {
        this.s = s;
    }

    void run() {
        s.says(Sentences.TERMS, "A call that is refused answers one of BAD, NO, FULL, or a FINDING, of several the one that "
                + "stands first with it, and changes nothing (but the tape and the numbers that wait, where told).");
        friendsAndTerms();
        postsAndThoughts();
        texts();
        sheets();
        copies();
        slots();
        whatIsUsedUp();
        withoutImage();
        whenFull();
    }

    /** Three friends, texts, an image that is not as now, all sorts of sheets and slots; perhaps a tape and numbers. */
    private static DuelLetters busy(boolean tape, boolean numbers) {
        DuelLetters x = new DuelLetters();
        x.friend(3, 0, 40);
        x.friend(4, 1, 50);
        x.rule(2, 20);
        x.posts(2);
        x.keep();
        x.friend(0, 0, 60);
        x.care(0, 1, 7);
        x.honour(1, 90);
        x.posts(3);
        Due.tell(x, "tone p/2+h");
        Due.tell(x, "fine y*7");
        Sentences.marked(x, 0, 0, 1, 2, 3, 4);
        Sentences.marked(x, 1, 1, 5, NONE, 7);
        x.sheet(2, 0, 0);
        x.lay(1, 1, 0);
        x.lay(2, 2, 1);
        x.lay(3, 3, 17);
        if (tape) Due.feed(x, "fee 5");
        if (numbers) {
            x.tell(4455);
            x.tell(0);
        }
        return x;
    }

    private static final String BUSY = Fingerprint.ofAll(busy(true, true), 4);

    private void refused(int answer, String name, ToIntFunction<DuelLetters> call) {
        refused(answer, name, BUSY, busy(true, true), call);
    }

    private void refused(int answer, String name, String want, DuelLetters x, ToIntFunction<DuelLetters> call) {
        s.is(answer, call.applyAsInt(x), name);
        s.same(want, Fingerprint.ofAll(x, 4), name + " changed something");
    }

    private void friendsAndTerms() {
        refused(BAD, "friend: kind", x -> x.friend(6, 0, 0));
        refused(BAD, "friend: side", x -> x.friend(0, 2, 0));
        refused(BAD, "friend: pride", x -> x.friend(0, 0, 100));
        refused(BAD, "told: friend", x -> x.told(3, 0));
        refused(BAD, "told: what", x -> x.told(0, 8));
        refused(BAD, "as: friend", x -> x.as(3, 0));
        refused(BAD, "as: kind", x -> x.as(0, 6));
        refused(KIND, "as", x -> x.as(0, 2));
        refused(BAD, "turns: friend", x -> x.turns(3, 0));
        refused(BAD, "turns: kind", x -> x.turns(0, -1));
        refused(BAD, "set: friend", x -> x.set(3, 1, 0));
        refused(BAD, "set: what", x -> x.set(0, 0, 1));
        refused(BAD, "set: side", x -> x.set(0, 1, 2));
        refused(BAD, "set: pride", x -> x.set(0, 2, -1));
        refused(BAD, "stand: term", x -> x.stand(4, 1));
        refused(BAD, "stand: v", x -> x.stand(0, 10));
        refused(BAD, "care: side", x -> x.care(2, 0, 1));
        refused(BAD, "care: term", x -> x.care(0, 4, 3));
        refused(BAD, "care: v", x -> x.care(0, 0, 10));
        refused(BAD, "honour: side", x -> x.honour(2, 1));
        refused(BAD, "honour: v", x -> x.honour(0, 401));
        refused(BAD, "rule: what", x -> x.rule(3, 1));
        refused(BAD, "rule: heat", x -> x.rule(0, 100));
        refused(BAD, "rule: duel", x -> x.rule(1, 0));
        refused(BAD, "rule: loss", x -> x.rule(2, 101));
        refused(BAD, "deal: 0", x -> x.deal(0));
        refused(BAD, "deal: 9", x -> x.deal(9));
    }

    private void postsAndThoughts() {
        refused(BAD, "posts: 0", x -> x.posts(0));
        refused(BAD, "posts: 101", x -> x.posts(101));
        refused(BAD, "table", x -> x.table(7));
        refused(BAD, "terms", x -> x.terms(2));
        refused(NONE, "terms: none", x -> x.honour(0, 400) * 0 + x.terms(0) + x.honour(0, 20) - 400);
        refused(BAD, "behind: n", x -> x.behind(101, 0));
        refused(BAD, "behind: what", x -> x.behind(0, 4));
        refused(BAD, "ends", x -> x.ends(2));
        refused(BAD, "held: 0", x -> x.held(0));
        refused(BAD, "held: 61", x -> x.held(61));
        refused(BAD, "cool: 0", x -> x.cool(0));
        refused(BAD, "cool: 41", x -> x.cool(41));
        refused(BAD, "bought: n", x -> x.bought(61, 0));
        refused(BAD, "bought: what", x -> x.bought(1, 2));
        refused(BAD, "cared: sheet", x -> x.cared(4, 0, 0));
        refused(BAD, "cared: side", x -> x.cared(3, 2, 0));
        refused(BAD, "cared: what", x -> x.cared(3, 0, 2));
        refused(NOTHING, "cared", x -> x.cared(3, 0, 0));
        refused(BAD, "fine", x -> x.fine(3));
    }

    private void texts() {
        refused(BAD, "trim: -1", x -> x.trim(-1));
        refused(BAD, "trim: 6", x -> x.trim(6));
        refused(BAD, "textTold: text", x -> x.textTold(2, 0));
        refused(BAD, "textTold: what", x -> x.textTold(0, 2));
        refused(BAD, "why", x -> x.why(3));
        refused(NONE, "why: none", x -> x.why(1));
    }

    private void sheets() {
        refused(BAD, "sheet: sheet", x -> x.sheet(4, 0, -1));
        refused(BAD, "sheet: sort", x -> x.sheet(0, 2, -1));
        refused(BAD, "sheet: n", x -> x.sheet(0, 1, 25));
        refused(SIZE, "sheet", x -> x.sheet(0, 1, -1));
        refused(BAD, "mark: sheet", x -> x.mark(4, 0, 0));
        refused(NOTHING, "mark: missing", x -> x.mark(3, 99, 0));
        refused(INDEX, "mark: place", x -> x.mark(0, 4, NONE));
        refused(INDEX, "mark: no places", x -> x.mark(2, 0, 1));
        refused(KIND, "mark: NONE", x -> x.mark(0, 0, NONE));
        refused(BAD, "mark: v", x -> x.mark(1, 0, 100000));
        refused(BAD, "pour: sheet", x -> x.pour(4));
        refused(NOTHING, "pour", x -> x.pour(3));
        refused(BAD, "reads: sheet", x -> x.reads(4));
        refused(NOTHING, "reads", x -> x.reads(3));
        refused(NONE, "reads: none", x -> x.reads(2));
    }

    private void copies() {
        refused(BAD, "copy: from", x -> x.copy(4, 0, 3, 0, 1));
        refused(BAD, "copy: to", x -> x.copy(3, 0, 4, 0, 1));
        refused(NOTHING, "copy: from", x -> x.copy(3, 0, 1, 9, 1));
        refused(NOTHING, "copy: to", x -> x.copy(0, 9, 3, 0, 1));
        refused(KIND, "copy", x -> x.copy(0, 9, 1, 9, 1));
        refused(INDEX, "copy: place", x -> x.copy(0, 3, 0, 0, 2));
        refused(INDEX, "copy: at", x -> x.copy(0, 0, 0, 3, 2));
        refused(INDEX, "copy: many", x -> x.copy(0, 0, 0, 1, -1));
    }

    private void slots() {
        refused(BAD, "lay: slot", x -> x.lay(5, 0, 0));
        refused(BAD, "lay: thing", x -> x.lay(3, 4, 0));
        refused(BAD, "lay: friend", x -> x.lay(3, 1, 3));
        refused(BAD, "lay: sheet", x -> x.lay(3, 2, 4));
        refused(NOTHING, "lay", x -> x.lay(3, 2, 3));
        refused(BAD, "ask: slot", x -> x.ask(5, 0));
        refused(BAD, "ask: kind", x -> x.ask(0, 6));
        refused(NOTHING, "ask", x -> x.ask(0, 0));
        refused(KIND, "ask: a sheet", x -> x.ask(2, 0));
        refused(KIND, "ask: another kind", x -> x.ask(1, 2));
        refused(BAD, "item: slot", x -> x.item(5, 0));
        refused(NOTHING, "item", x -> x.item(0, 0));
        refused(KIND, "item: a number", x -> x.item(3, 99));
        refused(INDEX, "item: place", x -> x.item(2, 3));
        refused(KIND, "item: NO NUMBER", x -> x.item(2, 1));
        refused(BAD, "rest: slot", x -> x.rest(5, 0));
        refused(NOTHING, "rest", x -> x.rest(0, 0));
        refused(KIND, "rest: a friend", x -> x.rest(1, 0));
        refused(NO, "rest: 0", x -> x.rest(3, 0));
        refused(BAD, "count", x -> x.count(9));
    }

    /** A fault uses up the tape, a check that is refused the numbers that wait, and nothing else. */
    private void whatIsUsedUp() {
        DuelLetters x = busy(false, true);
        Due.feed(x, "fee 5+");
        refused(-106, "text: a fault", Fingerprint.ofAll(busy(false, true), 4), x, y -> y.text());
        String without = Fingerprint.ofAll(busy(true, false), 4);
        refused(BAD, "check: 0", without, busy(true, true), y -> y.check(0));
        refused(BAD, "check: 31", without, busy(true, true), y -> y.check(31));
    }

    private static DuelLetters withoutAnImage(boolean numbers) {
        DuelLetters x = new DuelLetters();
        x.friend(1, 1, 30);
        x.posts(2);
        Due.feed(x, "fee 8");
        if (numbers) x.tell(1);
        return x;
    }

    private void withoutImage() {
        refused(NO, "back", Fingerprint.ofAll(withoutAnImage(true), 4), withoutAnImage(true), x -> x.back());
        refused(NO, "check: no image", Fingerprint.ofAll(withoutAnImage(false), 4), withoutAnImage(true), x -> x.check(1));
    }

    private static DuelLetters full(boolean tape) {
        DuelLetters x = new DuelLetters();
        for (int i = 0; i < 8; i++) x.friend(i % 6, i % 2, 10 * i);
        for (int i = 0; i < 14; i++) Due.tell(x, i < 7 ? "fee " + i : "tone " + i);
        for (int i = 0; i < 60; i++) x.tell(i);
        for (int i = 0; i < 8 && tape; i++) x.feed(i == 0 ? 0x66656520 : 0x20202020, 0x20202020, i == 7 ? 0x20202031 : 0x20202020);
        return x;
    }

    /** With fewer calls than the whole fingerprint, so that an object that is full has enough of them left. */
    private static String shortly(DuelLetters x) {
        StringBuilder b = new StringBuilder();
        for (int i = 0; i < 9; i++) b.append(x.count(i)).append(' ');
        for (int f = 0; f < 8; f++) {
            for (int what = 0; what < 8; what++) b.append(x.told(f, what)).append(' ');
        }
        for (int key = 0; key < 3; key++) b.append(x.why(key)).append(' ');
        return b.append(x.fee()).append(' ').append(x.text()).append(' ').append(x.keep()).append(' ').append(x.check(1)).toString();
    }

    private void whenFull() {
        String want = shortly(full(true));
        String[] names = {"friend", "feed", "tell"};
        for (int i = 0; i < 3; i++) {
            DuelLetters x = full(true);
            s.is(FULL, i == 0 ? x.friend(0, 0, 0) : i == 1 ? x.feed(1, 2, 3) : x.tell(5), names[i]);
            s.same(want, shortly(x), names[i] + " that is FULL changed something");
        }
        DuelLetters x = full(true);
        s.is(FULL, x.text(), "text");
        s.same(shortly(full(false)), shortly(x), "text that is FULL changed something but the tape");
    }
}
