import java.io.IOException;
import java.nio.file.Files;
import java.nio.file.Path;
import java.util.BitSet;
import java.util.Map;
import java.util.TreeMap;

/**
 * The document's sentences: a test first quotes the words that it holds the class to. A quote that the document does
 * not have, one without a test, and in the end every word of the document that no test has quoted, is a failure.
 */
final class Sentences {
    static final int BAD = DuelLetters.BAD, NO = DuelLetters.NO, FULL = DuelLetters.FULL, NONE = DuelLetters.NONE,
            NOTHING = DuelLetters.NOTHING, KIND = DuelLetters.KIND, INDEX = DuelLetters.INDEX, SIZE = DuelLetters.SIZE;
    static final int MIN = Integer.MIN_VALUE, MAX = Integer.MAX_VALUE;
    /** The document's part "What it is", of which one sentence alone binds; and its "Terms". */
    static final int WHAT_IT_IS = -1, TERMS = 0;
    private static final int LAST_PROMISE = 43;

    private final Map<Integer, String> parts = new TreeMap<>();
    private final Map<Integer, BitSet> quoted = new TreeMap<>();
    private int part = TERMS;
    private String quote = "";
    private int seenOfQuote = 1;
    private int quotes = 0;
    private int seen = 0;
    private int wrong = 0;

    Sentences(Path document) throws IOException {
        String text = Files.readString(document);
        parts.put(WHAT_IT_IS, plain(between(text, "## What it is", "## The public face")));
        parts.put(TERMS, plain(between(text, "## Terms", "Ahead of the calls `friend`")));
        for (int p = 1; p <= LAST_PROMISE; p++) {
            String next = p < LAST_PROMISE ? "## Promise " + (p + 1) + ":" : "## Not promised";
            String heading = "## Promise " + p + ":";
            String paragraph = between(text, heading, next);
            parts.put(p, plain(paragraph.substring(paragraph.indexOf("`:") + 2)));
        }
        for (int p : parts.keySet()) quoted.put(p, new BitSet());
    }

    private static String between(String text, String from, String to) {
        int start = text.indexOf(from) + from.length();
        return text.substring(start, text.indexOf(to, start));
    }

    private static String plain(String text) {
        return text.replaceAll("```(text)?", " ").replaceAll("=+ \\d ", " ").replaceAll("\\s+", " ").trim();
    }

    private void fail(String what) {
        wrong++;
        System.out.println((part > TERMS ? "promise " + part : "terms") + ", '" + quote + "': " + what);
    }

    /** The next answers are held to these words of a promise (or of the terms). */
    void says(int ofPart, String words) {
        closeQuote();
        part = ofPart;
        quote = words;
        quotes++;
        seenOfQuote = 0;
        String text = parts.get(ofPart);
        int at = text.indexOf(words);
        if (at < 0) fail("the document does not say so");
        BitSet done = quoted.get(ofPart);
        // words that stand several times are taken one time after the other
        while (at >= 0 && done.get(at, at + words.length()).cardinality() == words.length()) at = text.indexOf(words, at + 1);
        if (at >= 0) done.set(at, at + words.length());
    }

    private void closeQuote() {
        if (seenOfQuote == 0) fail("no test");
    }

    void is(int want, int got, String call) {
        seen++;
        seenOfQuote++;
        if (got != want) fail(call + " answered " + got + ", due is " + want);
    }

    void isTrue(boolean holds, String what) {
        is(1, holds ? 1 : 0, what);
    }

    void same(String want, String got, String what) {
        isTrue(want.equals(got), what + ":\n  " + got + "\n  for\n  " + want + "\n ");
    }

    /** Ends the test: with exit code 1, if an answer was wrong or a word of the document has no test. */
    void end() {
        closeQuote();
        quote = "";
        for (part = TERMS; part <= LAST_PROMISE; part++) {
            String text = parts.get(part);
            StringBuilder left = new StringBuilder();
            for (int i = 0; i < text.length(); i++) left.append(quoted.get(part).get(i) ? '_' : text.charAt(i));
            String open = left.toString().replaceAll("_+", " .. ").replaceAll("\\s+", " ");
            if (open.matches(".*[A-Za-z0-9].*")) fail("not quoted by any test: " + open);
        }
        System.out.println(wrong == 0 ? seen + " answers to " + quotes + " quotes are as due"
                : wrong + " of " + seen + " answers or quotes are not as due");
        if (wrong != 0) System.exit(1);
    }

    // ---- objects that many tests begin with

    static DuelLetters withoutLoss() {
        DuelLetters x = new DuelLetters();
        x.rule(2, 0);
        return x;
    }

    /** Friends of each kind, numbered as the kinds, of one side and pride. */
    static DuelLetters sixKinds(int side, int pride) {
        DuelLetters x = withoutLoss();
        for (int kind = 0; kind < 6; kind++) x.friend(kind, side, pride);
        return x;
    }

    /** Nothing is sent any more: the posts alone go on, up to the one that is wanted. */
    static void goToPost(DuelLetters x, int post) {
        x.rule(0, 99);
        for (int left = post - x.count(1); left > 0; left -= 100) x.posts(Math.min(100, left));
        x.rule(0, 0);
    }

    static void marked(DuelLetters x, int sheet, int sort, int... row) {
        x.sheet(sheet, sort, row.length);
        for (int i = 0; i < row.length; i++) x.mark(sheet, i, row[i]);
    }
}
