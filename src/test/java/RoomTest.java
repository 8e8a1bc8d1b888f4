import com.sun.management.ThreadMXBean;
import java.lang.management.ManagementFactory;

/** All calls of a run live in one room: but for the constructor and text(), no call makes anything at all. */
public final class RoomTest {
    private static final Due due = new Due();
    private static final ThreadMXBean THREADS = (ThreadMXBean) ManagementFactory.getThreadMXBean();

    private static long made() {
        return THREADS.getThreadAllocatedBytes(Thread.currentThread().getId());
    }

    private static int someCalls(DuelLetters x, int round) {
        int sum = 0;
        for (int i = 0; i < 4; i++) {
            sum += x.stand(i, round % 10) + x.care(0, i, i) + x.care(1, i, 4 - i) + x.sheet(i, i % 2, 24) + x.mark(i, 3, 5)
                    + x.pour(i) + x.reads(i) + x.cared(i, 0, 0) + x.copy(i, 0, i, 3, 9);
        }
        sum += x.friend(1, 1, 50) + x.deal(8) + x.turns(0, 2) + x.set(0, 2, 9) + x.honour(0, 60) + x.rule(0, 9) + x.seed(round);
        sum += x.taken() + x.terms(0) + x.terms(1) + x.behind(100, 1) + x.ends(0) + x.held(60) + x.cool(40) + x.bought(60, 0);
        sum += x.posts(100) + x.fee() + x.fine(0) + x.told(0, 5) + x.told(0, 6) + x.told(0, 7) + x.as(0, 0) + x.table(5);
        sum += x.feed(1, 2, 3) + x.text() + x.textTold(0, 1) + x.why(0) + x.lay(0, 1, 0) + x.ask(0, 0) + x.lay(1, 2, 1)
                + x.item(1, 3) + x.lay(2, 3, 7) + x.rest(2, 3) + x.tell(4) + x.keep() + x.back() + x.check(30) + x.count(0);
        return sum;
    }

    public static void main(String[] args) {
        DuelLetters x = new DuelLetters();
        Due.tell(x, "tone (p+h*s)/2-!(p<h|s=3)*7");
        int sum = someCalls(x, 0);
        long before = made();
        for (int round = 1; round <= 4; round++) sum += someCalls(x, round);
        long calls = made() - before;
        due.isTrue(calls < 1000, "bytes made by calls: " + calls + " (" + sum + ")");
        before = made();
        DuelLetters y = new DuelLetters();
        long fresh = made() - before;
        due.isTrue(fresh < 12000 && y.count(0) == 0, "bytes made by a constructor: " + fresh);
        Due.feed(y, "tone p" + "+1".repeat(45));
        before = made();
        int number = y.text();
        long text = made() - before;
        due.isTrue(text < 1500 && number == 0, "bytes made by the longest text: " + text);
        due.end();
    }
}
