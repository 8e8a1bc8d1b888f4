import java.lang.reflect.Method;
import java.lang.reflect.Modifier;

/** Every call with every choice of numbers at the edges, in several states: none throws, each answers as the model. */
public final class AnyNumbersTest {
    private static final int MIN = Integer.MIN_VALUE, MAX = Integer.MAX_VALUE, NONE = DuelLetters.NONE;
    private static final Integer[] MANY = {MIN, NONE, -100000, -99999, -2, -1, 0, 1, 2, 3, 4, 5, 6, 7, 8, 9, 10, 13, 14, 24, 25,
        30, 31, 40, 41, 60, 61, 96, 97, 99, 100, 101, 400, 401, 99999, 100000, MAX};
    private static final Integer[] SOME = {MIN, NONE, -1, 0, 1, 2, 3, 4, 5, 6, 8, 9, 10, 24, 99, 100, 401, MAX};
    private static final Integer[] FEW = {MIN, -1, 0, 1, 2, 3, 4, MAX};

    private static int seen = 0;
    private static boolean wrong = false;
    private static Pair pair;
    private static int state;

    public static void main(String[] args) {
        for (state = 0; state < 3; state++) {
            for (Method m : DuelLetters.class.getDeclaredMethods()) {
                if (!Modifier.isPublic(m.getModifiers())) continue;
                pair = made();
                all(m.getName(), new Integer[m.getParameterCount()], 0);
            }
        }
        System.out.println(wrong ? "a call with numbers at the edges is not as due" : seen + " calls with numbers at the edges are as due");
        if (wrong) System.exit(1);
    }

    private static void all(String name, Integer[] args, int from) {
        if (wrong) return;
        if (from == args.length) {
            // a new object now and then, so that the calls are never used up
            if (pair.calls > 400) pair = made();
            pair.call(name, args.clone());
            seen++;
            wrong = pair.wrong;
            return;
        }
        Integer[] choice = args.length <= 2 ? MANY : args.length == 3 ? SOME : FEW;
        for (Integer v : choice) {
            args[from] = v;
            all(name, args, from + 1);
        }
    }

    /** New, with something of everything, or full. */
    private static Pair made() {
        Pair p = new Pair();
        if (state == 0) return p;
        p.call("seed", 20 + state);
        p.call("deal", state == 1 ? 5 : 8);
        p.call("honour", 0, 70);
        p.call("posts", 3);
        p.call("keep");
        for (int i = 0; i < (state == 1 ? 2 : 14); i++) {
            p.feed(new String[] {"tone p+h/2-s", "fee l*9-p", "fine y*9-n"}[i % 3], 0);
            p.call("text");
        }
        for (int i = 0; i < (state == 1 ? 3 : 60); i++) p.call("tell", 5000 + i);
        for (int i = 0; i < (state == 1 ? 2 : 8); i++) p.call("feed", 0x66656520, 0x31202020, 0x20202020);
        for (int i = 0; i < (state == 1 ? 3 : 4); i++) {
            p.call("sheet", i, i % 2, state == 1 ? 3 * i : 24);
            p.call("mark", i, 1, i % 2 == 1 ? NONE : 7);
        }
        p.call("lay", 1, 1, 0);
        p.call("lay", 2, 2, 1);
        p.call("lay", 3, 3, MIN);
        p.call("lay", 4, 2, 2);
        p.call("care", 1, 2, 9);
        return p;
    }
}
