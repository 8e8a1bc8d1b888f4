import java.util.ArrayList;
import java.util.Arrays;
import java.util.List;
import java.util.Map;
import java.util.function.IntPredicate;

/**
 * The document told a second time, as slowly and as plainly as it goes and in another shape than the class
 * (kinds are classes, a thought is a deep copy, texts are trees), so that random runs can be held against it.
 */
public final class Model {
    static final int BAD = -1000000001, NO = -1000000002, FULL = -1000000003, NONE = -1000000005,
            NOTHING = -1000000011, KIND = -1000000012, INDEX = -1000000013, SIZE = -1000000014;

    // ---- kinds of friends

    static class Friend {
        int side, pride, sent, yielded;
        int number() { return 0; }
        int tone(World w) {
            Tree text = w.counting("tone");
            if (text == null) return (pride + w.heat) / 2;
            return Math.max(0, Math.min(99, text.value(Map.of("p", pride, "h", w.heat, "s", sent))));
        }
        /** The judged side (0 its own, 1 the other), and whether the greatest care is sought. */
        int judge() { return 0; }
        boolean greatest() { return false; }
        int worth() { return pride; }
    }
    static class Hot extends Friend {
        @Override int number() { return 1; }
        @Override int tone(World w) { return Math.min(99, super.tone(w) + 20); }
        @Override int judge() { return 1; }
        @Override int worth() { return super.worth() + 4; }
    }
    static class Lazy extends Friend {
        @Override int number() { return 2; }
        @Override int tone(World w) { return super.tone(w) / 2; }
        @Override int worth() { return 99 - pride; }
    }
    static class Secret extends Hot {
        @Override int number() { return 3; }
        @Override int tone(World w) { return w.heat >= 40 ? 0 : super.tone(w); }
        @Override int worth() { return 2 * super.worth(); }
    }
    static class Wise extends Lazy {
        @Override int number() { return 4; }
        @Override int tone(World w) { return Math.max(0, super.tone(w) - 10); }
        @Override int judge() { return 1; }
        @Override boolean greatest() { return true; }
        @Override int worth() { return super.worth() - 9; }
    }
    static class Bribed extends Friend {
        @Override int number() { return 5; }
        @Override int tone(World w) { return 0; }
        @Override boolean greatest() { return true; }
        @Override int worth() { return 7; }
    }
    static final List<Class<? extends Friend>> KINDS =
            List.of(Friend.class, Hot.class, Lazy.class, Secret.class, Wise.class, Bribed.class);

    static Friend make(int kind) {
        return switch (kind) {
            case 0 -> new Friend();
            case 1 -> new Hot();
            case 2 -> new Lazy();
            case 3 -> new Secret();
            case 4 -> new Wise();
            default -> new Bribed();
        };
    }

    static Friend made(Friend f, int kind) {
        Friend n = make(kind);
        n.side = f.side;
        n.pride = f.pride;
        n.sent = f.sent;
        n.yielded = f.yielded;
        return n;
    }

    // ---- texts

    interface Tree {
        int value(Map<String, Integer> names);
    }
    record Leaf(String word) implements Tree {
        public int value(Map<String, Integer> names) {
            return Character.isDigit(word.charAt(0)) ? Integer.parseInt(word) : names.get(word);
        }
    }
    record Not(Tree part) implements Tree {
        public int value(Map<String, Integer> names) { return part.value(names) == 0 ? 1 : 0; }
    }
    record Both(char sign, Tree left, Tree right) implements Tree {
        public int value(Map<String, Integer> names) {
            int a = left.value(names), b = right.value(names);
            return switch (sign) {
                case '+' -> a + b;
                case '-' -> a - b;
                case '*' -> a * b;
                case '/' -> b == 0 ? 0 : a / b;
                case '<' -> a < b ? 1 : 0;
                case '=' -> a == b ? 1 : 0;
                case '>' -> a > b ? 1 : 0;
                case '&' -> a != 0 && b != 0 ? 1 : 0;
                default -> a != 0 || b != 0 ? 1 : 0;
            };
        }
    }
    record Law(String key, int leaves, Tree tree) { }

    /** Words and signs are found first, then judged one by one by what may come next, with no recursion. */
    static final class Parse {
        int fault = -1;
        Law law;

        static final Map<String, String> NAMES = Map.of("tone", "phs", "fee", "lp", "fine", "yn");
        final List<Tree> trees = new ArrayList<>();
        final List<Character> signs = new ArrayList<>();

        static int tightness(char sign) {
            if (sign == '|') return 1;
            if (sign == '&') return 2;
            if ("<=>".indexOf(sign) >= 0) return 3;
            if ("+-".indexOf(sign) >= 0) return 4;
            if ("*/".indexOf(sign) >= 0) return 5;
            return 6;
        }
        void reduce() {
            char sign = signs.remove(signs.size() - 1);
            Tree right = trees.remove(trees.size() - 1);
            if (sign == '!') {
                trees.add(new Not(right));
            } else {
                trees.add(new Both(sign, trees.remove(trees.size() - 1), right));
            }
        }
        char topSign() { return signs.isEmpty() ? '(' : signs.get(signs.size() - 1); }
        int open(char sign) { return (int) signs.stream().filter(c -> c == sign).count(); }
        void reduceBangs() { while (topSign() == '!') reduce(); }

        Parse(String s) {
            String key = null;
            boolean wantsPiece = true;
            int leaves = 0;
            int i = 0;
            while (i < s.length()) {
                if (s.charAt(i) == ' ') { i++; continue; }
                int j = i + 1;
                char c = s.charAt(i);
                boolean letter = c >= 'a' && c <= 'z', digit = c >= '0' && c <= '9';
                while (letter && j < s.length() && s.charAt(j) >= 'a' && s.charAt(j) <= 'z') j++;
                while (digit && j < s.length() && s.charAt(j) >= '0' && s.charAt(j) <= '9') j++;
                String word = s.substring(i, j);
                boolean good;
                if (key == null) {
                    good = NAMES.containsKey(word);
                    key = word;
                } else if (wantsPiece) {
                    boolean glued = (letter || digit) && i > 0 && Character.isLetterOrDigit(s.charAt(i - 1))
                            && s.charAt(i - 1) < 128;
                    if (digit || letter) {
                        good = !glued && (digit ? word.length() <= 4
                                : word.length() == 1 && NAMES.get(key).contains(word));
                        if (good) {
                            leaves++;
                            trees.add(new Leaf(word));
                            reduceBangs();
                            wantsPiece = false;
                        }
                    } else {
                        good = (c == '(' || c == '!') && open(c) < 8;
                        if (good) signs.add(c);
                    }
                } else if (c == ')') {
                    good = open('(') > 0;
                    if (good) {
                        while (topSign() != '(') reduce();
                        signs.remove(signs.size() - 1);
                        reduceBangs();
                    }
                } else {
                    good = "|&<=>+-*/".indexOf(c) >= 0;
                    if (good) {
                        while (topSign() != '(' && tightness(topSign()) > tightness(c)) reduce();
                        boolean same = topSign() != '(' && tightness(topSign()) == tightness(c);
                        if (same && tightness(c) == 3) {
                            good = false;
                        } else {
                            if (same) reduce();
                            signs.add(c);
                            wantsPiece = true;
                        }
                    }
                }
                if (!good) { fault = i; return; }
                i = j;
            }
            if (key == null || wantsPiece || open('(') > 0) { fault = s.length(); return; }
            while (!signs.isEmpty()) reduce();
            law = new Law(key, leaves, trees.get(0));
        }
    }

    // ---- what an image keeps

    static final class World {
        int[] stands = {5, 5, 5, 5};
        int[][] cares = {{1, 1, 1, 1}, {1, 1, 1, 1}};
        int[] honours = {20, 20};
        int heat = 0, duel = 60, loss = 10, lost = 0, post = 0, z = 1;
        List<Friend> friends = new ArrayList<>();
        List<Law> laws = new ArrayList<>();

        World copied() {
            World w = new World();
            w.stands = stands.clone();
            w.cares = new int[][] {cares[0].clone(), cares[1].clone()};
            w.honours = honours.clone();
            w.heat = heat; w.duel = duel; w.loss = loss; w.lost = lost; w.post = post; w.z = z;
            for (Friend f : friends) w.friends.add(made(f, f.number()));
            w.laws.addAll(laws);
            return w;
        }
        int whichCounts(String key) {
            for (int i = laws.size() - 1; i >= 0; i--) if (laws.get(i).key().equals(key)) return i;
            return NONE;
        }
        Tree counting(String key) {
            int i = whichCounts(key);
            return i == NONE ? null : laws.get(i).tree();
        }
        int draw() {
            z = (int) ((long) z * 1103515245L + 12345L);
            return z >>> 8;
        }
        int has(int side, int[] at) {
            int sum = 0;
            for (int t = 0; t < 4; t++) sum += cares[side][t] * (side == 0 ? at[t] : 9 - at[t]);
            return sum;
        }
        boolean peace(int[] at) { return has(0, at) >= honours[0] && has(1, at) >= honours[1]; }
        boolean peace() { return peace(stands); }
        int number() { return stands[0] * 1000 + stands[1] * 100 + stands[2] * 10 + stands[3]; }
        int yields(Friend f) {
            List<Integer> can = new ArrayList<>();
            for (int t = 0; t < 4; t++) if (f.side == 0 ? stands[t] > 0 : stands[t] < 9) can.add(t);
            int[] care = cares[f.judge() == 0 ? f.side : 1 - f.side];
            can.sort((a, b) -> {
                int c = f.greatest() ? care[b] - care[a] : care[a] - care[b];
                return c != 0 ? c : a - b;
            });
            return can.isEmpty() ? NONE : can.get(0);
        }
        /** One post, with the letters of those friends alone that are let through. */
        int onePost(IntPredicate let) {
            post++;
            if (peace() || heat >= duel) return 0;
            int[] next = stands.clone();
            int nextHeat = heat, count = 0;
            for (int i = 0; i < friends.size(); i++) {
                if (!let.test(i)) continue;
                Friend f = friends.get(i);
                f.sent++;
                if (draw() % 100 < loss) { lost++; continue; }
                if (f.tone(this) >= 50) { nextHeat += 5; continue; }
                int t = yields(f);
                if (t == NONE) continue;
                next[t] += f.side == 0 ? -1 : 1;
                f.yielded++;
                nextHeat--;
                count++;
            }
            for (int t = 0; t < 4; t++) stands[t] = Math.max(0, Math.min(9, next[t]));
            heat = Math.max(0, Math.min(99, nextHeat));
            return count;
        }
        World onBy(int n) {
            World w = copied();
            for (int i = 0; i < n; i++) w.onePost(k -> true);
            return w;
        }
    }

    // ---- the object

    World w = new World();
    World image = null;
    String tape = "";
    /** null is NO NUMBER; a sheet that is null is MISSING. */
    record Sheet(int sort, Integer[] row) { }
    Sheet[] sheets = new Sheet[4];
    Object[] slots = new Object[5];
    List<Integer> waiting = new ArrayList<>();

    static boolean in(int v, int a, int b) { return v >= a && v <= b; }
    boolean isFriend(int f) { return in(f, 0, w.friends.size() - 1); }

    public int friend(int kind, int side, int pride) {
        if (!in(kind, 0, 5) || !in(side, 0, 1) || !in(pride, 0, 99)) return BAD;
        if (w.friends.size() == 8) return FULL;
        Friend f = make(kind);
        f.side = side;
        f.pride = pride;
        w.friends.add(f);
        return w.friends.size() - 1;
    }
    public int told(int friend, int what) {
        if (!isFriend(friend) || !in(what, 0, 7)) return BAD;
        Friend f = w.friends.get(friend);
        return new int[] {f.number(), f.side, f.pride, f.sent, f.yielded, f.tone(w), w.yields(f), f.worth()}[what];
    }
    public int as(int friend, int kind) {
        if (!isFriend(friend) || !in(kind, 0, 5)) return BAD;
        return KINDS.get(kind).isInstance(w.friends.get(friend)) ? w.friends.get(friend).pride : KIND;
    }
    public int turns(int friend, int kind) {
        if (!isFriend(friend) || !in(kind, 0, 5)) return BAD;
        Friend was = w.friends.get(friend);
        w.friends.set(friend, made(was, kind));
        return was.number();
    }
    public int set(int friend, int what, int v) {
        if (!isFriend(friend) || !in(what, 1, 2) || !in(v, 0, what == 1 ? 1 : 99)) return BAD;
        Friend f = w.friends.get(friend);
        int was = what == 1 ? f.side : f.pride;
        if (what == 1) f.side = v; else f.pride = v;
        return was;
    }
    public int stand(int term, int v) {
        if (!in(term, 0, 3) || !in(v, 0, 9)) return BAD;
        int was = w.stands[term];
        w.stands[term] = v;
        return was;
    }
    public int care(int side, int term, int v) {
        if (!in(side, 0, 1) || !in(term, 0, 3) || !in(v, 0, 9)) return BAD;
        int was = w.cares[side][term];
        w.cares[side][term] = v;
        return was;
    }
    public int honour(int side, int v) {
        if (!in(side, 0, 1) || !in(v, 0, 400)) return BAD;
        int was = w.honours[side];
        w.honours[side] = v;
        return was;
    }
    public int rule(int what, int v) {
        if (!in(what, 0, 2) || !in(v, what == 1 ? 1 : 0, what == 2 ? 100 : 99)) return BAD;
        int was = what == 0 ? w.heat : what == 1 ? w.duel : w.loss;
        if (what == 0) w.heat = v;
        if (what == 1) w.duel = v;
        if (what == 2) w.loss = v;
        return was;
    }
    public int deal(int n) {
        if (!in(n, 1, 8)) return BAD;
        int came = 0;
        while (came < n && w.friends.size() < 8) {
            int kind = w.draw() % 6, side = w.draw() % 2, pride = w.draw() % 100;
            friend(kind, side, pride);
            came++;
        }
        return came;
    }
    public int seed(int v) {
        int was = w.z;
        w.z = v;
        return was;
    }
    public int posts(int n) {
        if (!in(n, 1, 100)) return BAD;
        int sum = 0;
        for (int i = 0; i < n && w.post < 9999; i++) sum += w.onePost(k -> true);
        return sum;
    }
    public int table(int what) {
        if (!in(what, 0, 6)) return BAD;
        return new int[] {w.has(0, w.stands), w.has(1, w.stands), w.peace() ? 1 : 0, w.number(), w.lost,
            w.friends.stream().mapToInt(f -> f.sent).sum(), w.friends.stream().mapToInt(f -> f.yielded).sum()}[what];
    }
    static int[] digits(int way) { return new int[] {way / 1000, way / 100 % 10, way / 10 % 10, way % 10}; }
    public int taken() {
        int sum = 0;
        for (int way = 0; way < 10000; way++) if (w.peace(digits(way))) sum++;
        return sum;
    }
    public int terms(int what) {
        if (!in(what, 0, 1)) return BAD;
        int best = NONE, bestMark = 0;
        for (int way = 9999; way >= 0; way--) {
            int[] at = digits(way);
            if (!w.peace(at)) continue;
            int mark = 0;
            if (what == 0) {
                mark = Math.min(w.has(0, at) - w.honours[0], w.has(1, at) - w.honours[1]);
            } else {
                for (int t = 0; t < 4; t++) mark -= Math.abs(at[t] - w.stands[t]);
            }
            if (best == NONE || mark >= bestMark) {
                best = way;
                bestMark = mark;
            }
        }
        return best;
    }
    public int behind(int n, int what) {
        if (!in(n, 0, 100) || !in(what, 0, 3)) return BAD;
        World b = w.onBy(n);
        return new int[] {b.heat, b.number(), b.peace() ? 1 : 0, b.lost}[what];
    }
    public int ends(int what) {
        if (!in(what, 0, 1)) return BAD;
        for (int n = 0; n <= 200; n++) {
            World b = w.onBy(n);
            if (b.peace() || b.heat >= b.duel) return what == 0 ? n : b.peace() ? 1 : 2;
        }
        return NONE;
    }
    public int held(int n) {
        if (!in(n, 1, 60)) return BAD;
        int set = 0;
        for (int f = 0; f < w.friends.size(); f++) {
            World without = w.copied();
            int out = f;
            for (int i = 0; i < n; i++) without.onePost(k -> k != out);
            if (without.peace() && !w.onBy(n).peace()) set += 1 << f;
        }
        return set;
    }
    public int cool(int n) {
        if (!in(n, 1, 40)) return BAD;
        int best = NONE;
        for (int h = 0; h <= 99; h++) {
            World c = w.copied();
            c.heat = h;
            if (c.onBy(n).peace()) best = h;
        }
        return best;
    }
    public int bought(int n, int what) {
        if (!in(n, 1, 60) || !in(what, 0, 1)) return BAD;
        int best = NONE, least = NONE;
        for (int f = w.friends.size() - 1; f >= 0; f--) {
            World c = w.copied();
            c.friends.set(f, made(c.friends.get(f), 5));
            c = c.onBy(n);
            int left = c.has(c.friends.get(f).side, c.stands);
            if (best == NONE || left <= least) {
                best = f;
                least = left;
            }
        }
        return what == 0 ? best : least;
    }
    public int cared(int sheet, int side, int what) {
        if (!in(sheet, 0, 3) || !in(side, 0, 1) || !in(what, 0, 1)) return BAD;
        if (sheets[sheet] == null) return NOTHING;
        Integer[] row = sheets[sheet].row();
        int[] sums = new int[4];
        for (int t = 0; t < 4; t++) {
            World c = w.copied();
            c.cares[side][t] = 9;
            c = c.onBy(1);
            for (int k = 0; k < Math.min(4, row.length); k++) {
                if (row[k] != null) sums[t] += Math.abs(c.stands[k] - row[k]);
            }
        }
        int least = Arrays.stream(sums).min().getAsInt();
        for (int t = 0; t < 4; t++) if (sums[t] == least) return what == 0 ? t : least;
        return BAD;
    }
    public int fee() {
        Tree t = w.counting("fee");
        return t == null ? w.lost : t.value(Map.of("l", w.lost, "p", w.post));
    }
    public int fine(int friend) {
        if (!isFriend(friend)) return BAD;
        Friend f = w.friends.get(friend);
        Tree t = w.counting("fine");
        return t == null ? f.yielded : t.value(Map.of("y", f.yielded, "n", f.sent));
    }
    public int feed(int a, int b, int c) {
        if (tape.length() + 12 > 96) return FULL;
        for (int v : new int[] {a, b, c}) {
            for (byte x : java.nio.ByteBuffer.allocate(4).putInt(v).array()) tape += (char) (x & 255);
        }
        return tape.length();
    }
    public int trim(int n) {
        if (!in(n, 0, tape.length())) return BAD;
        tape = tape.substring(0, n);
        return n;
    }
    public int text() {
        Parse p = new Parse(tape);
        tape = "";
        if (p.fault >= 0) return -100 - p.fault;
        if (w.laws.size() == 14) return FULL;
        w.laws.add(p.law);
        return w.laws.size() - 1;
    }
    public int textTold(int text, int what) {
        if (!in(text, 0, w.laws.size() - 1) || !in(what, 0, 1)) return BAD;
        Law law = w.laws.get(text);
        return what == 1 ? law.leaves() : List.of("tone", "fee", "fine").indexOf(law.key());
    }
    public int why(int key) {
        return in(key, 0, 2) ? w.whichCounts(List.of("tone", "fee", "fine").get(key)) : BAD;
    }
    public int sheet(int sheet, int sort, int n) {
        if (!in(sheet, 0, 3) || !in(sort, -1, 1) || (sort != -1 && n > 24)) return BAD;
        if (sort != -1 && n < 0) return SIZE;
        if (sort == -1) {
            sheets[sheet] = null;
            return 0;
        }
        Integer[] row = new Integer[n];
        Arrays.fill(row, 0);
        sheets[sheet] = new Sheet(sort, row);
        return n;
    }
    public int mark(int sheet, int place, int v) {
        if (!in(sheet, 0, 3)) return BAD;
        Sheet s = sheets[sheet];
        if (s == null) return NOTHING;
        if (!in(place, 0, s.row().length - 1)) return INDEX;
        if (s.sort() == 0 && v == NONE) return KIND;
        if (s.sort() == 1 && v != NONE && Math.abs((long) v) > 99999) return BAD;
        s.row()[place] = s.sort() == 0 ? Integer.valueOf((short) v) : v == NONE ? null : Integer.valueOf(v);
        return 1;
    }
    public int pour(int sheet) {
        if (!in(sheet, 0, 3)) return BAD;
        if (sheets[sheet] == null) return NOTHING;
        int[] was = w.stands.clone();
        Integer[] row = sheets[sheet].row();
        for (int t = 0; t < 4 && t < row.length; t++) {
            if (row[t] != null) w.stands[t] = Math.max(0, Math.min(9, row[t]));
        }
        int sum = 0;
        for (int t = 0; t < 4; t++) if (was[t] != w.stands[t]) sum++;
        return sum;
    }
    public int reads(int sheet) {
        if (!in(sheet, 0, 3)) return BAD;
        if (sheets[sheet] == null) return NOTHING;
        Integer[] row = sheets[sheet].row();
        for (int k = 0; k < row.length; k++) {
            if (row[k] != null && row[k] != w.onBy(k).number()) return k;
        }
        return NONE;
    }
    public int copy(int from, int place, int to, int at, int many) {
        if (!in(from, 0, 3) || !in(to, 0, 3)) return BAD;
        if (sheets[from] == null || sheets[to] == null) return NOTHING;
        if (sheets[from].sort() != sheets[to].sort()) return KIND;
        Integer[] a = sheets[from].row(), b = sheets[to].row();
        if (place < 0 || at < 0 || many < 0 || (long) place + many > a.length || (long) at + many > b.length) {
            return INDEX;
        }
        Integer[] were = a.clone();
        for (int i = 0; i < many; i++) b[at + i] = were[place + i];
        return many;
    }
    public int lay(int slot, int thing, int k) {
        if (!in(slot, 0, 4) || !in(thing, 0, 3)) return BAD;
        if (thing == 1 && !isFriend(k) || thing == 2 && !in(k, 0, 3)) return BAD;
        if (thing == 2 && sheets[k] == null) return NOTHING;
        Object old = slots[slot];
        slots[slot] = switch (thing) {
            case 0 -> null;
            case 1 -> made(w.friends.get(k), w.friends.get(k).number());
            case 2 -> new Sheet(sheets[k].sort(), sheets[k].row().clone());
            default -> k;
        };
        return old == null ? 0 : old instanceof Friend ? 1 : old instanceof Sheet ? 2 : 3;
    }
    public int ask(int slot, int kind) {
        if (!in(slot, 0, 4) || !in(kind, 0, 5)) return BAD;
        if (slots[slot] == null) return NOTHING;
        return KINDS.get(kind).isInstance(slots[slot]) ? ((Friend) slots[slot]).worth() : KIND;
    }
    public int item(int slot, int place) {
        if (!in(slot, 0, 4)) return BAD;
        if (slots[slot] == null) return NOTHING;
        if (!(slots[slot] instanceof Sheet s)) return KIND;
        if (!in(place, 0, s.row().length - 1)) return INDEX;
        return s.row()[place] == null ? KIND : s.row()[place];
    }
    public int rest(int slot, int n) {
        if (!in(slot, 0, 4)) return BAD;
        if (slots[slot] == null) return NOTHING;
        if (!(slots[slot] instanceof Integer v)) return KIND;
        return n == 0 ? NO : (int) ((long) v % n);
    }
    public int tell(int v) {
        if (waiting.size() == 60) return FULL;
        waiting.add(v);
        return waiting.size();
    }
    public int check(int n) {
        List<Integer> told = waiting;
        waiting = new ArrayList<>();
        if (!in(n, 1, 30)) return BAD;
        if (image == null) return NO;
        List<Integer> due = new ArrayList<>();
        for (int i = 1; i <= n && image.post + i <= 9999; i++) {
            due.add(image.onBy(i).number());
            due.add(image.onBy(i).heat);
        }
        if (told.equals(due)) return 0;
        int right = 0;
        while (right < told.size() && right < due.size() && told.get(right).equals(due.get(right))) right++;
        return 1 + right;
    }
    public int keep() {
        image = w.copied();
        return w.friends.size();
    }
    public int back() {
        if (image == null) return NO;
        w = image.copied();
        return w.friends.size();
    }
    public int count(int what) {
        if (!in(what, 0, 8)) return BAD;
        return new int[] {w.friends.size(), w.post, w.heat, w.duel, w.loss, w.laws.size(), waiting.size(),
            tape.length(), w.z}[what];
    }
}
