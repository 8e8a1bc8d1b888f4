/** All that can be told of an object, as one text: two objects with one text are alike in all that calls can tell. */
final class Fingerprint {
    private final DuelLetters x;
    private final StringBuilder text = new StringBuilder();

    private Fingerprint(DuelLetters x) {
        this.x = x;
    }

    private void add(int v) {
        text.append(v).append(' ');
    }

    /** Friends, terms, rules and texts; care and honour are set anew to what they were. */
    static String ofQuarrel(DuelLetters x) {
        Fingerprint f = new Fingerprint(x);
        f.quarrel();
        return f.text.toString();
    }

    private void quarrel() {
        for (int i = 0; i < 9; i++) if (i != 6 && i != 7) add(x.count(i));
        for (int i = 0; i < 7; i++) add(x.table(i));
        int friends = x.count(0);
        for (int f = 0; f < friends; f++) {
            for (int what = 0; what < 8; what++) add(x.told(f, what));
            add(x.fine(f));
        }
        for (int side = 0; side < 2; side++) {
            int honour = x.honour(side, 0);
            x.honour(side, honour);
            add(honour);
            for (int term = 0; term < 4; term++) {
                int care = x.care(side, term, 0);
                x.care(side, term, care);
                add(care);
            }
        }
        add(x.fee());
        for (int key = 0; key < 3; key++) add(x.why(key));
        int texts = x.count(5);
        for (int t = 0; t < texts; t++) {
            add(x.textTold(t, 0));
            add(x.textTold(t, 1));
        }
    }

    /** All, the image, sheets, slots, tape and waiting numbers too; the object is of no more use behind it. */
    static String ofAll(DuelLetters x, int places) {
        Fingerprint f = new Fingerprint(x);
        f.quarrel();
        f.text.append("slots ");
        for (int slot = 0; slot < 5; slot++) f.slot(slot, places);
        f.text.append("sheets ");
        for (int sheet = 0; sheet < 4; sheet++) {
            f.add(x.lay(0, 2, sheet));
            // whether it is shorts or floats: shorts take any number
            f.row(0, places);
            f.add(x.mark(sheet, 0, 100000));
        }
        f.text.append("tape and numbers ");
        f.add(x.count(6));
        f.add(x.count(7));
        f.add(x.check(30));
        f.add(x.text());
        f.add(x.fee());
        f.text.append("image ");
        f.add(x.back());
        f.quarrel();
        return f.text.toString();
    }

    private void slot(int slot, int places) {
        for (int kind = 0; kind < 6; kind++) add(x.ask(slot, kind));
        add(x.rest(slot, MANY));
        row(slot, places);
    }

    private static final int MANY = Integer.MAX_VALUE;

    private void row(int slot, int places) {
        for (int place = 0; place <= places; place++) add(x.item(slot, place));
    }
}
