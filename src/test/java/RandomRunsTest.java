import java.util.ArrayList;
import java.util.List;
import java.util.Random;

/** Random runs of at most 512 calls, each answer held against that of Model. The seeds are fixed. */
public final class RandomRunsTest {
    /** A call's name, how often it comes, and what its arguments are like (see one()). */
    private static final String[] CALLS = {
        "friend 6 kind side pride", "told 10 friend what7", "as 3 friend kind", "turns 4 friend kind",
        "set 4 friend what2 pride", "stand 6 term digit", "care 8 side term digit", "honour 5 side honour",
        "rule 6 what2 pride", "deal 1 eight", "seed 2 any", "posts 10 posts", "table 8 what6", "taken 1",
        "terms 2 what1", "behind 5 hundred what3", "ends 1 what1", "held 2 sixty", "cool 1 forty",
        "bought 2 sixty what1", "cared 4 sheet side what1", "fee 4", "fine 4 friend", "feed 2 any any any",
        "trim 2 hundred", "text 2", "textTold 4 what14 what1", "why 3 what2", "sheet 4 sheet sort places",
        "mark 14 sheet place value", "pour 3 sheet", "reads 2 sheet", "copy 8 sheet place sheet place places",
        "lay 8 slot thing k", "ask 5 slot kind", "item 6 slot place", "rest 4 slot small", "tell 4 any",
        "check 2 thirty", "keep 2", "back 2", "count 8 what8"
    };
    private static final int[] EDGES = {0, 1, -1, Integer.MIN_VALUE, Integer.MAX_VALUE, DuelLetters.NONE, 100000,
        -100000, 99999, -99999, 32767, 32768, -32768, -32769, 400, 401, 9999, 10000};

    private final Random random;
    private final Pair pair = new Pair();

    private RandomRunsTest(long seed) {
        random = new Random(seed);
    }

    private int one(String like) {
        if (random.nextInt(25) == 0) {
            return random.nextInt(4) == 0 ? random.nextInt() : EDGES[random.nextInt(EDGES.length)];
        }
        if (like.startsWith("what")) return near(0, Integer.parseInt(like.substring(4)));
        return switch (like) {
            case "kind" -> near(0, 5);
            case "side" -> near(0, 1);
            case "pride" -> near(0, random.nextInt(3) == 0 ? 1 : 99);
            case "friend" -> near(0, random.nextInt(4) == 0 ? 8 : Math.max(0, pair.model.count(0) - 1));
            case "term" -> near(0, 3);
            case "digit" -> near(0, 9);
            case "honour" -> near(0, random.nextInt(5) == 0 ? 400 : 90);
            case "eight" -> near(1, 8);
            case "posts" -> random.nextInt(12) == 0 ? near(1, 100) : near(1, 4);
            case "hundred" -> random.nextInt(3) == 0 ? near(0, 100) : near(0, 9);
            case "sixty" -> random.nextInt(4) == 0 ? near(1, 60) : near(1, 9);
            case "forty" -> random.nextInt(3) == 0 ? near(1, 40) : near(1, 9);
            case "thirty" -> near(1, 30);
            case "sheet" -> near(0, 3);
            case "sort" -> near(-1, 1);
            case "places" -> random.nextInt(3) == 0 ? near(0, 24) : near(0, 5);
            case "place" -> random.nextInt(3) == 0 ? near(0, 24) : near(0, 4);
            case "value" -> random.nextInt(6) == 0 ? DuelLetters.NONE : random.nextInt(3) == 0 ? near(-99999, 99999) : near(0, 9);
            case "slot" -> near(0, 4);
            case "thing" -> near(0, 3);
            case "k" -> random.nextInt(3) == 0 ? random.nextInt() : near(0, 3);
            case "small" -> near(-9, 9);
            default -> random.nextInt();
        };
    }

    /** A number within the bounds; now and then one right outside them. */
    private int near(int least, int most) {
        int r = random.nextInt(40);
        if (r == 0) return least - 1;
        if (r == 1) return most + 1;
        if (r == 2) return least;
        if (r == 3) return most;
        return least + random.nextInt(most - least + 1);
    }

    private int call(String name, Integer... args) {
        return pair.call(name, args);
    }

    private boolean goesOn() {
        return pair.calls < Pair.MOST_CALLS && !pair.wrong;
    }

    private void anyCall(String[] bag) {
        String[] words = bag[random.nextInt(bag.length)].split(" ");
        Integer[] args = new Integer[words.length - 2];
        for (int i = 0; i < args.length; i++) args[i] = one(words[i + 2]);
        call(words[0], args);
    }

    // ---- runs of calls that random ones would not hit upon

    private String blanks() {
        return random.nextInt(5) == 0 ? " ".repeat(random.nextInt(3)) : "";
    }

    private String expression(int depth, String names) {
        int r = random.nextInt(depth <= 0 ? 4 : 10);
        if (r < 2) return blanks() + names.charAt(random.nextInt(names.length())) + blanks();
        if (r < 4) return blanks() + random.nextInt(random.nextInt(4) == 0 ? 10000 : 120) + blanks();
        if (r == 4) return "!" + expression(depth - 1, names);
        if (r == 5) return "(" + expression(depth - 1, names) + ")" + blanks();
        return expression(depth - 1, names) + "|&<=>+-*/".charAt(random.nextInt(9)) + expression(depth - 1, names);
    }

    private void tellText() {
        String[] keys = {"tone", "fee", "fine"};
        String[] names = {"phs", "lp", "yn"};
        int key = random.nextInt(3);
        String text;
        if (random.nextInt(8) == 0) {
            int brackets = random.nextInt(11), bangs = random.nextInt(11);
            StringBuilder b = new StringBuilder(keys[key]).append(' ');
            while (brackets + bangs > 0) {
                boolean bang = random.nextInt(brackets + bangs) < bangs;
                b.append(bang ? '!' : '(');
                if (bang) bangs--; else brackets--;
            }
            int open = (int) b.chars().filter(c -> c == '(').count();
            text = b.append("7").append(")".repeat(open)).toString();
        } else {
            text = blanks() + keys[key] + " " + expression(random.nextInt(6), names[key]);
        }
        if (text.length() > 96) text = text.substring(0, 96);
        StringBuilder b = new StringBuilder(text);
        for (int i = random.nextInt(6) - 3; i > 0 && b.length() > 0; i--) {
            int at = random.nextInt(b.length());
            String signs = "()!|&<=>+-*/ 09123456789phslynxtofe~A" + (char) 233 + (char) 0;
            char c = signs.charAt(random.nextInt(signs.length()));
            switch (random.nextInt(3)) {
                case 0 -> b.setCharAt(at, c);
                case 1 -> b.deleteCharAt(at);
                default -> b.insert(at, c);
            }
        }
        if (b.length() > 96) b.setLength(96);
        pair.feed(b.toString(), random.nextInt(256));
        call("text");
    }

    private void tellPosts() {
        call("check", 0);
        call("keep");
        int n = 1 + random.nextInt(4), spoiled = random.nextInt(5 * n);
        int many = n + (random.nextInt(6) == 0 ? 1 : 0) - (random.nextInt(6) == 0 ? 1 : 0);
        for (int k = 1; k <= many; k++) {
            call("tell", call("behind", k, 1) + (spoiled == 2 * k ? 1 : 0));
            call("tell", call("behind", k, 0) + (spoiled == 2 * k + 1 ? 1 : 0));
        }
        if (random.nextBoolean()) anyCall(CALLS);
        call("check", n);
    }

    private void markPosts() {
        int sheet = random.nextInt(4), n = random.nextInt(6), spoiled = random.nextInt(8);
        call("sheet", sheet, random.nextInt(2), n);
        for (int k = 0; k < n; k++) {
            call("mark", sheet, k, random.nextInt(5) == 0 ? DuelLetters.NONE
                    : call("behind", k, 1) + (k == spoiled ? 1 : 0));
        }
        call("reads", sheet);
    }

    private void somewhereNearPeace() {
        for (int side = 0; side < 2; side++) {
            for (int term = 0; term < 4; term++) call("care", side, term, random.nextInt(10));
            call("honour", side, Math.max(0, call("table", side) + random.nextInt(31) - 8));
        }
        call("rule", 0, random.nextInt(60));
        call("rule", 1, 40 + random.nextInt(60));
        call("rule", 2, random.nextInt(40));
        int n = 1 + random.nextInt(20);
        for (String name : new String[] {"held", "cool"}) call(name, n);
        for (int what = 0; what < 2; what++) {
            call("ends", what);
            call("bought", n, what);
            call("terms", what);
            call("cared", random.nextInt(4), random.nextInt(2), what);
        }
    }

    private boolean run(String[] bag) {
        call("seed", random.nextInt());
        if (random.nextInt(4) != 0) call("deal", 1 + random.nextInt(8));
        if (random.nextInt(6) == 0) {
            for (int i = 0; i < 99; i++) call("posts", 100);
            call("posts", 95 + random.nextInt(5));
        }
        while (goesOn()) {
            switch (random.nextInt(60)) {
                case 0 -> tellText();
                case 1 -> tellPosts();
                case 2 -> markPosts();
                case 3 -> somewhereNearPeace();
                default -> anyCall(bag);
            }
        }
        return !pair.wrong;
    }

    private boolean runOfTexts() {
        call("deal", 8);
        while (goesOn()) {
            tellText();
            call("why", random.nextInt(3));
            call("textTold", random.nextInt(15), random.nextInt(2));
            call("told", random.nextInt(8), 5);
            call("fee");
            call("fine", random.nextInt(8));
            if (random.nextInt(4) == 0) call("posts", 1 + random.nextInt(3));
            if (call("count", 5) == 14 && random.nextInt(3) == 0) call("back");
            if (pair.calls < 40 && random.nextInt(2) == 0) call("keep");
        }
        return !pair.wrong;
    }

    public static void main(String[] args) {
        long first = args.length > 0 ? Long.parseLong(args[0]) : 0;
        int runs = args.length > 1 ? Integer.parseInt(args[1]) : 150;
        List<String> bag = new ArrayList<>();
        for (String c : CALLS) {
            for (int i = Integer.parseInt(c.split(" ")[1]); i > 0; i--) bag.add(c);
        }
        int failed = 0;
        for (int i = 0; i < runs && failed == 0; i++) {
            if (!new RandomRunsTest(first + i).run(bag.toArray(new String[0]))) failed++;
            if (failed == 0 && !new RandomRunsTest(first + i).runOfTexts()) failed++;
        }
        System.out.println(failed == 0 ? runs + " random runs and as many of texts are as due" : "a random run is not as due");
        if (failed != 0) System.exit(1);
    }
}
