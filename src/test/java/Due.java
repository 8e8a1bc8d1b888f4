/** Counts the answers that are not as due, and tells each of them. */
final class Due {
    private int wrong = 0;
    private int seen = 0;
    private int promise = 0;

    void promise(int number) {
        promise = number;
    }

    void is(int want, int got, String call) {
        seen++;
        if (got != want) {
            wrong++;
            System.out.println("promise " + promise + ": " + call + " answered " + got + ", due is " + want);
        }
    }

    void isTrue(boolean holds, String what) {
        is(1, holds ? 1 : 0, what);
    }

    /** Ends the test: with exit code 1, if an answer was wrong. */
    void end() {
        System.out.println(wrong == 0 ? seen + " answers are as due" : wrong + " answers of " + seen + " are not as due");
        if (wrong != 0) System.exit(1);
    }

    /** Feeds a text to an object's tape, which then has just its bytes. */
    static void feed(DuelLetters x, String text) {
        x.trim(0);
        for (int at = 0; at < text.length(); at += 12) {
            int[] v = new int[3];
            for (int i = 0; i < 12; i++) {
                v[i / 4] = v[i / 4] << 8 | (at + i < text.length() ? text.charAt(at + i) : 0);
            }
            x.feed(v[0], v[1], v[2]);
        }
        x.trim(text.length());
    }

    static int tell(DuelLetters x, String text) {
        feed(x, text);
        return x.text();
    }
}
