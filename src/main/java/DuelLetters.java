import java.util.Arrays;

/** A quarrel handed to friends who write letters; ../shared/DOC.md says what each call promises. */
public final class DuelLetters {
    public static final int BAD = -1000000001, NO = -1000000002, FULL = -1000000003, NONE = -1000000005,
            NOTHING = -1000000011, KIND = -1000000012, INDEX = -1000000013, SIZE = -1000000014;

    private static final int TERM_COUNT = 4, MOST_STAND = 9, MOST_CARE = 9, MOST_HONOUR = 400;
    private static final int MOST_HEAT = 99, MOST_DUEL = 99, MOST_LOSS = 100, MOST_PRIDE = 99;
    private static final int MOST_FRIENDS = 8, MOST_TEXTS = 14, MOST_POST = 9999;
    private static final int MOST_BYTES = 96, MOST_WAITING = 60, MOST_PLACES = 24, MOST_FLOAT = 99999;
    private static final int SHEET_COUNT = 4, SLOT_COUNT = 5, KEY_COUNT = 3, MOST_OPEN = 8;
    private static final int WAYS = 10000, LAST_END = 200, RAISING_TONE = 50;

    private static final int FRIEND = 0, HOT = 1, LAZY = 2, SECRET = 3, WISE = 4, BRIBED = 5, KIND_COUNT = 6;
    /** The kind right above each kind; -1 above FRIEND. */
    private static final int[] ABOVE = {-1, 0, 0, 1, 2, 0};

    private static final int TONE_KEY = 0, FEE_KEY = 1, FINE_KEY = 2;
    private static final int MISSING = -1, SHORTS = 0, FLOATS = 1;
    private static final int EMPTY = 0, A_FRIEND = 1, A_SHEET = 2, A_NUMBER = 3;
    private static final int NOBODY = -1;

    private final Quarrel now = new Quarrel();
    private final Quarrel thought = new Quarrel();
    private final Quarrel image = new Quarrel();
    private boolean imageKept = false;
    private final Ways ways = new Ways();
    private final Reader reader = new Reader();
    private final Tape tape = reader.tape;
    private final Row[] sheets = new Row[SHEET_COUNT];
    private final Slot[] slots = new Slot[SLOT_COUNT];
    private final int[] waiting = new int[MOST_WAITING];
    private int waitingCount = 0;

    public DuelLetters() {
        for (int i = 0; i < SHEET_COUNT; i++) {
            sheets[i] = new Row();
        }
        for (int i = 0; i < SLOT_COUNT; i++) {
            slots[i] = new Slot();
        }
    }

    // ---- friends, terms

    public int friend(int kind, int side, int pride) {
        if (!isKind(kind) || !isSide(side) || !within(pride, 0, MOST_PRIDE)) {
            return BAD;
        }
        if (now.friends >= MOST_FRIENDS) {
            return FULL;
        }
        now.addFriend(kind, side, pride);
        return now.friends - 1;
    }

    public int told(int friend, int what) {
        if (!now.isFriend(friend)) {
            return BAD;
        }
        switch (what) {
            case 0: return now.kinds[friend];
            case 1: return now.sides[friend];
            case 2: return now.prides[friend];
            case 3: return now.sent[friend];
            case 4: return now.yielded[friend];
            case 5: return now.toneOf(friend);
            case 6: return orNone(now.termYielded(friend));
            case 7: return worthOf(now.kinds[friend], now.prides[friend]);
            default: return BAD;
        }
    }

    public int as(int friend, int kind) {
        if (!now.isFriend(friend) || !isKind(kind)) {
            return BAD;
        }
        return isUnder(now.kinds[friend], kind) ? now.prides[friend] : KIND;
    }

    public int turns(int friend, int kind) {
        if (!now.isFriend(friend) || !isKind(kind)) {
            return BAD;
        }
        int was = now.kinds[friend];
        now.kinds[friend] = kind;
        return was;
    }

    public int set(int friend, int what, int v) {
        if (!now.isFriend(friend)) {
            return BAD;
        }
        if (what == 1 && isSide(v)) {
            int was = now.sides[friend];
            now.sides[friend] = v;
            return was;
        }
        if (what == 2 && within(v, 0, MOST_PRIDE)) {
            int was = now.prides[friend];
            now.prides[friend] = v;
            return was;
        }
        return BAD;
    }

    public int stand(int term, int v) {
        if (!isTerm(term) || !within(v, 0, MOST_STAND)) {
            return BAD;
        }
        int was = now.stands[term];
        now.stands[term] = v;
        return was;
    }

    public int care(int side, int term, int v) {
        if (!isSide(side) || !isTerm(term) || !within(v, 0, MOST_CARE)) {
            return BAD;
        }
        int was = now.cares[carePlace(side, term)];
        now.cares[carePlace(side, term)] = v;
        return was;
    }

    public int honour(int side, int v) {
        if (!isSide(side) || !within(v, 0, MOST_HONOUR)) {
            return BAD;
        }
        int was = now.honours[side];
        now.honours[side] = v;
        return was;
    }

    public int rule(int what, int v) {
        if (what == 0 && within(v, 0, MOST_HEAT)) {
            int was = now.heat;
            now.heat = v;
            return was;
        }
        if (what == 1 && within(v, 1, MOST_DUEL)) {
            int was = now.duel;
            now.duel = v;
            return was;
        }
        if (what == 2 && within(v, 0, MOST_LOSS)) {
            int was = now.loss;
            now.loss = v;
            return was;
        }
        return BAD;
    }

    public int deal(int n) {
        if (!within(n, 1, MOST_FRIENDS)) {
            return BAD;
        }
        int come = Math.min(n, MOST_FRIENDS - now.friends);
        for (int i = 0; i < come; i++) {
            int kind = now.draw() % KIND_COUNT;
            int side = now.draw() % 2;
            int pride = now.draw() % 100;
            now.addFriend(kind, side, pride);
        }
        return come;
    }

    public int seed(int v) {
        int was = now.z;
        now.z = v;
        return was;
    }

    // ---- posts

    public int posts(int n) {
        if (!within(n, 1, 100)) {
            return BAD;
        }
        return now.runPosts(Math.min(n, MOST_POST - now.post), NOBODY);
    }

    public int table(int what) {
        switch (what) {
            case 0: return now.hasOf(0);
            case 1: return now.hasOf(1);
            case 2: return now.isPeace() ? 1 : 0;
            case 3: return now.standsAsNumber();
            case 4: return now.lost;
            case 5: return now.sumOverFriends(now.sent);
            case 6: return now.sumOverFriends(now.yielded);
            default: return BAD;
        }
    }

    public int taken() {
        return ways.countTaken(now);
    }

    public int terms(int what) {
        if (what == 0) {
            return orNone(ways.fairest(now));
        }
        if (what == 1) {
            return orNone(ways.nearest(now));
        }
        return BAD;
    }

    // ---- what will be

    public int behind(int n, int what) {
        if (!within(n, 0, 100) || !within(what, 0, 3)) {
            return BAD;
        }
        thought.becomes(now);
        thought.runPosts(n, NOBODY);
        switch (what) {
            case 0: return thought.heat;
            case 1: return thought.standsAsNumber();
            case 2: return thought.isPeace() ? 1 : 0;
            default: return thought.lost;
        }
    }

    public int ends(int what) {
        if (!within(what, 0, 1)) {
            return BAD;
        }
        thought.becomes(now);
        for (int gone = 0; gone <= LAST_END; gone++) {
            if (thought.isPeace()) {
                return what == 0 ? gone : 1;
            }
            if (thought.isDuel()) {
                return what == 0 ? gone : 2;
            }
            thought.runPosts(1, NOBODY);
        }
        return NONE;
    }

    public int held(int n) {
        if (!within(n, 1, 60)) {
            return BAD;
        }
        if (peaceWithout(NOBODY, n)) {
            return 0;
        }
        int set = 0;
        for (int i = 0; i < now.friends; i++) {
            if (peaceWithout(i, n)) {
                set |= 1 << i;
            }
        }
        return set;
    }

    private boolean peaceWithout(int friend, int n) {
        thought.becomes(now);
        thought.runPosts(n, friend);
        return thought.isPeace();
    }

    public int cool(int n) {
        if (!within(n, 1, 40)) {
            return BAD;
        }
        for (int heat = MOST_HEAT; heat >= 0; heat--) {
            thought.becomes(now);
            thought.heat = heat;
            thought.runPosts(n, NOBODY);
            if (thought.isPeace()) {
                return heat;
            }
        }
        return NONE;
    }

    public int bought(int n, int what) {
        if (!within(n, 1, 60) || !within(what, 0, 1)) {
            return BAD;
        }
        int best = NONE;
        int least = NONE;
        for (int i = 0; i < now.friends; i++) {
            thought.becomes(now);
            thought.kinds[i] = BRIBED;
            thought.runPosts(n, NOBODY);
            int left = thought.hasOf(thought.sides[i]);
            if (best == NONE || left < least) {
                best = i;
                least = left;
            }
        }
        return what == 0 ? best : least;
    }

    public int cared(int sheet, int side, int what) {
        if (!isSheet(sheet) || !isSide(side) || !within(what, 0, 1)) {
            return BAD;
        }
        Row row = sheets[sheet];
        if (row.isMissing()) {
            return NOTHING;
        }
        int best = NONE;
        int least = NONE;
        for (int term = 0; term < TERM_COUNT; term++) {
            thought.becomes(now);
            thought.cares[carePlace(side, term)] = MOST_CARE;
            thought.runPosts(1, NOBODY);
            int differs = differenceFrom(row);
            if (best == NONE || differs < least) {
                best = term;
                least = differs;
            }
        }
        return what == 0 ? best : least;
    }

    /** By how much the stands that are thought differ from a row; a place that is no number adds nothing. */
    private int differenceFrom(Row row) {
        int sum = 0;
        for (int term = 0; term < TERM_COUNT; term++) {
            if (row.isNumber(term)) {
                sum += Math.abs(thought.stands[term] - row.places[term]);
            }
        }
        return sum;
    }

    public int fee() {
        Text text = now.textFor(FEE_KEY);
        return text == null ? now.lost : text.workOut(now.lost, now.post, 0);
    }

    public int fine(int friend) {
        if (!now.isFriend(friend)) {
            return BAD;
        }
        Text text = now.textFor(FINE_KEY);
        int yielded = now.yielded[friend];
        return text == null ? yielded : text.workOut(yielded, now.sent[friend], 0);
    }

    // ---- texts

    public int feed(int a, int b, int c) {
        if (tape.length + 12 > MOST_BYTES) {
            return FULL;
        }
        tape.addBytesOf(a);
        tape.addBytesOf(b);
        tape.addBytesOf(c);
        return tape.length;
    }

    public int trim(int n) {
        if (!within(n, 0, tape.length)) {
            return BAD;
        }
        tape.length = n;
        return n;
    }

    public int text() {
        int fault = reader.findFault();
        tape.length = 0;
        if (fault >= 0) {
            return -100 - fault;
        }
        if (now.textCount >= MOST_TEXTS) {
            return FULL;
        }
        now.addText(reader.makeText());
        return now.textCount - 1;
    }

    public int textTold(int text, int what) {
        if (!within(text, 0, now.textCount - 1) || !within(what, 0, 1)) {
            return BAD;
        }
        Text asked = now.texts[text];
        if (asked == null) {
            return BAD;
        }
        return what == 0 ? asked.key : asked.operands;
    }

    public int why(int key) {
        if (!within(key, 0, KEY_COUNT - 1)) {
            return BAD;
        }
        return orNone(now.lastOfKey[key]);
    }

    // ---- sheets, slots

    public int sheet(int sheet, int sort, int n) {
        if (!isSheet(sheet) || !within(sort, MISSING, FLOATS)) {
            return BAD;
        }
        if (sort == MISSING) {
            sheets[sheet].renew(MISSING, 0);
            return 0;
        }
        if (n > MOST_PLACES) {
            return BAD;
        }
        if (n < 0) {
            return SIZE;
        }
        sheets[sheet].renew(sort, n);
        return n;
    }

    public int mark(int sheet, int place, int v) {
        if (!isSheet(sheet)) {
            return BAD;
        }
        Row row = sheets[sheet];
        if (row.isMissing()) {
            return NOTHING;
        }
        if (!row.isPlace(place)) {
            return INDEX;
        }
        if (row.sort == SHORTS) {
            if (v == NONE) {
                return KIND;
            }
            row.places[place] = (short) v;
            return 1;
        }
        if (v != NONE && !within(v, -MOST_FLOAT, MOST_FLOAT)) {
            return BAD;
        }
        row.places[place] = v;
        return 1;
    }

    public int pour(int sheet) {
        if (!isSheet(sheet)) {
            return BAD;
        }
        Row row = sheets[sheet];
        if (row.isMissing()) {
            return NOTHING;
        }
        int otherwise = 0;
        for (int term = 0; term < TERM_COUNT; term++) {
            if (row.isNumber(term)) {
                int v = heldWithin(row.places[term], MOST_STAND);
                if (v != now.stands[term]) {
                    now.stands[term] = v;
                    otherwise++;
                }
            }
        }
        return otherwise;
    }

    public int reads(int sheet) {
        if (!isSheet(sheet)) {
            return BAD;
        }
        Row row = sheets[sheet];
        if (row.isMissing()) {
            return NOTHING;
        }
        thought.becomes(now);
        for (int k = 0; k < row.size; k++) {
            if (row.isNumber(k) && row.places[k] != thought.standsAsNumber()) {
                return k;
            }
            thought.runPosts(1, NOBODY);
        }
        return NONE;
    }

    public int copy(int from, int place, int to, int at, int many) {
        if (!isSheet(from) || !isSheet(to)) {
            return BAD;
        }
        Row source = sheets[from];
        Row target = sheets[to];
        if (source.isMissing() || target.isMissing()) {
            return NOTHING;
        }
        if (source.sort != target.sort) {
            return KIND;
        }
        if (!source.hasPlaces(place, many) || !target.hasPlaces(at, many)) {
            return INDEX;
        }
        System.arraycopy(source.places, place, target.places, at, many);
        return many;
    }

    public int lay(int slot, int thing, int k) {
        if (!isSlot(slot) || !within(thing, EMPTY, A_NUMBER)
                || (thing == A_FRIEND && !now.isFriend(k)) || (thing == A_SHEET && !isSheet(k))) {
            return BAD;
        }
        if (thing == A_SHEET && sheets[k].isMissing()) {
            return NOTHING;
        }
        Slot laid = slots[slot];
        int was = laid.thing;
        laid.thing = thing;
        if (thing == A_FRIEND) {
            laid.kind = now.kinds[k];
            laid.pride = now.prides[k];
        } else if (thing == A_SHEET) {
            laid.row.becomes(sheets[k]);
        } else {
            laid.number = k;
        }
        return was;
    }

    public int ask(int slot, int kind) {
        if (!isSlot(slot) || !isKind(kind)) {
            return BAD;
        }
        Slot asked = slots[slot];
        if (asked.thing == EMPTY) {
            return NOTHING;
        }
        if (asked.thing != A_FRIEND || !isUnder(asked.kind, kind)) {
            return KIND;
        }
        return worthOf(asked.kind, asked.pride);
    }

    public int item(int slot, int place) {
        if (!isSlot(slot)) {
            return BAD;
        }
        Slot asked = slots[slot];
        if (asked.thing == EMPTY) {
            return NOTHING;
        }
        if (asked.thing != A_SHEET) {
            return KIND;
        }
        if (!asked.row.isPlace(place)) {
            return INDEX;
        }
        return asked.row.isNumber(place) ? asked.row.places[place] : KIND;
    }

    public int rest(int slot, int n) {
        if (!isSlot(slot)) {
            return BAD;
        }
        Slot asked = slots[slot];
        if (asked.thing == EMPTY) {
            return NOTHING;
        }
        if (asked.thing != A_NUMBER) {
            return KIND;
        }
        return n == 0 ? NO : asked.number % n;
    }

    // ---- rows, images

    public int tell(int v) {
        if (waitingCount >= MOST_WAITING) {
            return FULL;
        }
        waiting[waitingCount] = v;
        waitingCount++;
        return waitingCount;
    }

    public int check(int n) {
        int count = waitingCount;
        waitingCount = 0;
        if (!within(n, 1, 30)) {
            return BAD;
        }
        if (!imageKept) {
            return NO;
        }
        thought.becomes(image);
        int told = 2 * Math.min(n, MOST_POST - image.post);
        for (int i = 0; i < told; i++) {
            // every even number stands right behind one post more; the odd one behind it tells the same post
            if (i % 2 == 0) {
                thought.runPosts(1, NOBODY);
            }
            int due = i % 2 == 0 ? thought.standsAsNumber() : thought.heat;
            if (i >= count || waiting[i] != due) {
                return 1 + i;
            }
        }
        return count == told ? 0 : 1 + told;
    }

    public int keep() {
        image.becomes(now);
        imageKept = true;
        return image.friends;
    }

    public int back() {
        if (!imageKept) {
            return NO;
        }
        now.becomes(image);
        return now.friends;
    }

    public int count(int what) {
        switch (what) {
            case 0: return now.friends;
            case 1: return now.post;
            case 2: return now.heat;
            case 3: return now.duel;
            case 4: return now.loss;
            case 5: return now.textCount;
            case 6: return waitingCount;
            case 7: return tape.length;
            case 8: return now.z;
            default: return BAD;
        }
    }

    // ---- what the calls share

    private static boolean within(int v, int least, int most) {
        return v >= least && v <= most;
    }

    private static int heldWithin(int v, int most) {
        return v < 0 ? 0 : Math.min(v, most);
    }

    private static boolean isSide(int side) {
        return side == 0 || side == 1;
    }

    private static boolean isTerm(int term) {
        return within(term, 0, TERM_COUNT - 1);
    }

    private static boolean isKind(int kind) {
        return within(kind, 0, KIND_COUNT - 1);
    }

    private static boolean isSheet(int sheet) {
        return within(sheet, 0, SHEET_COUNT - 1);
    }

    private static boolean isSlot(int slot) {
        return within(slot, 0, SLOT_COUNT - 1);
    }

    private static int carePlace(int side, int term) {
        return side * TERM_COUNT + term;
    }

    private static int orNone(int v) {
        return v < 0 ? NONE : v;
    }

    /** Whether a kind is another one, or stands somewhere under it. */
    private static boolean isUnder(int kind, int above) {
        int k = kind;
        for (int step = 0; step < KIND_COUNT && isKind(k); step++) {
            if (k == above) {
                return true;
            }
            k = ABOVE[k];
        }
        return false;
    }

    private static int worthOf(int kind, int pride) {
        switch (kind) {
            case HOT: return pride + 4;
            case SECRET: return 2 * (pride + 4);
            case LAZY: return 99 - pride;
            case WISE: return 99 - pride - 9;
            case BRIBED: return 7;
            default: return pride;
        }
    }

    /** All that an image keeps: friends, terms, rules, the lot and the texts. */
    private static final class Quarrel {
        final int[] stands = {5, 5, 5, 5};
        final int[] cares = {1, 1, 1, 1, 1, 1, 1, 1};
        final int[] honours = {20, 20};
        int heat = 0;
        int duel = 60;
        int loss = 10;
        int lost = 0;
        int post = 0;
        int z = 1;
        int friends = 0;
        final int[] kinds = new int[MOST_FRIENDS];
        final int[] sides = new int[MOST_FRIENDS];
        final int[] prides = new int[MOST_FRIENDS];
        final int[] sent = new int[MOST_FRIENDS];
        final int[] yielded = new int[MOST_FRIENDS];
        final Text[] texts = new Text[MOST_TEXTS];
        int textCount = 0;
        final int[] lastOfKey = {-1, -1, -1};
        /** What the letters of one post do to the stands, until all comes about at once. */
        final int[] moves = new int[TERM_COUNT];

        void becomes(Quarrel other) {
            System.arraycopy(other.stands, 0, stands, 0, TERM_COUNT);
            System.arraycopy(other.cares, 0, cares, 0, 2 * TERM_COUNT);
            System.arraycopy(other.honours, 0, honours, 0, 2);
            heat = other.heat;
            duel = other.duel;
            loss = other.loss;
            lost = other.lost;
            post = other.post;
            z = other.z;
            friends = other.friends;
            System.arraycopy(other.kinds, 0, kinds, 0, MOST_FRIENDS);
            System.arraycopy(other.sides, 0, sides, 0, MOST_FRIENDS);
            System.arraycopy(other.prides, 0, prides, 0, MOST_FRIENDS);
            System.arraycopy(other.sent, 0, sent, 0, MOST_FRIENDS);
            System.arraycopy(other.yielded, 0, yielded, 0, MOST_FRIENDS);
            for (int i = 0; i < MOST_TEXTS; i++) {
                texts[i] = other.texts[i];
            }
            textCount = other.textCount;
            System.arraycopy(other.lastOfKey, 0, lastOfKey, 0, KEY_COUNT);
        }

        boolean isFriend(int friend) {
            return within(friend, 0, friends - 1);
        }

        void addFriend(int kind, int side, int pride) {
            if (friends >= MOST_FRIENDS) {
                return;
            }
            kinds[friends] = kind;
            sides[friends] = side;
            prides[friends] = pride;
            sent[friends] = 0;
            yielded[friends] = 0;
            friends++;
        }

        void addText(Text text) {
            if (text == null || textCount >= MOST_TEXTS || !within(text.key, 0, KEY_COUNT - 1)) {
                return;
            }
            texts[textCount] = text;
            lastOfKey[text.key] = textCount;
            textCount++;
        }

        /** The text that counts for a key, or null. */
        Text textFor(int key) {
            int last = lastOfKey[key];
            return within(last, 0, textCount - 1) ? texts[last] : null;
        }

        int draw() {
            z = z * 1103515245 + 12345;
            return z >>> 8;
        }

        int hasOf(int side) {
            int sum = 0;
            for (int term = 0; term < TERM_COUNT; term++) {
                int good = side == 0 ? stands[term] : MOST_STAND - stands[term];
                sum += cares[carePlace(side, term)] * good;
            }
            return sum;
        }

        boolean isPeace() {
            return hasOf(0) >= honours[0] && hasOf(1) >= honours[1];
        }

        boolean isDuel() {
            return heat >= duel;
        }

        int standsAsNumber() {
            int number = 0;
            for (int term = 0; term < TERM_COUNT; term++) {
                number = number * 10 + stands[term];
            }
            return number;
        }

        int sumOverFriends(int[] row) {
            int sum = 0;
            for (int i = 0; i < friends; i++) {
                sum += row[i];
            }
            return sum;
        }

        int toneOf(int friend) {
            int kind = kinds[friend];
            // the text need not be worked out for one whose tone does not hang on it
            if (kind == BRIBED || (kind == SECRET && heat >= 40)) {
                return 0;
            }
            int plain = plainTone(friend);
            switch (kind) {
                case HOT:
                case SECRET: return Math.min(plain + 20, 99);
                case LAZY: return plain / 2;
                case WISE: return Math.max(plain / 2 - 10, 0);
                default: return plain;
            }
        }

        private int plainTone(int friend) {
            Text text = textFor(TONE_KEY);
            if (text == null) {
                return (prides[friend] + heat) / 2;
            }
            return heldWithin(text.workOut(prides[friend], heat, sent[friend]), 99);
        }

        /** The term that a friend yields if it does; -1 if none can be yielded. */
        int termYielded(int friend) {
            int kind = kinds[friend];
            int side = sides[friend];
            boolean byOther = kind == HOT || kind == SECRET || kind == WISE;
            boolean greatest = kind == WISE || kind == BRIBED;
            int judge = byOther ? 1 - side : side;
            int best = -1;
            int bestCare = 0;
            for (int term = 0; term < TERM_COUNT; term++) {
                boolean can = side == 0 ? stands[term] > 0 : stands[term] < MOST_STAND;
                int care = cares[carePlace(judge, term)];
                if (can && (best < 0 || (greatest ? care > bestCare : care < bestCare))) {
                    best = term;
                    bestCare = care;
                }
            }
            return best;
        }

        /** Goes on by n posts without the letters of one friend (or of NOBODY): how many letters yielded. */
        int runPosts(int n, int without) {
            int steps = 0;
            for (int i = 0; i < n && !isPeace() && !isDuel(); i++) {
                steps += writeLetters(without);
            }
            post += n;
            return steps;
        }

        private int writeLetters(int without) {
            Arrays.fill(moves, 0);
            int warmer = 0;
            int steps = 0;
            for (int i = 0; i < friends; i++) {
                if (i == without) {
                    continue;
                }
                sent[i]++;
                if (draw() % 100 < loss) {
                    lost++;
                } else if (toneOf(i) >= RAISING_TONE) {
                    warmer += 5;
                } else {
                    int term = termYielded(i);
                    if (isTerm(term)) {
                        moves[term] += sides[i] == 0 ? -1 : 1;
                        yielded[i]++;
                        warmer--;
                        steps++;
                    }
                }
            }
            for (int term = 0; term < TERM_COUNT; term++) {
                stands[term] = heldWithin(stands[term] + moves[term], MOST_STAND);
            }
            heat = heldWithin(heat + warmer, MOST_HEAT);
            return steps;
        }
    }

    /** Walks all 10000 ways in which the terms can stand, least number first. */
    private static final class Ways {
        final int[] way = new int[TERM_COUNT];
        int has0 = 0;
        int has1 = 0;

        int countTaken(Quarrel quarrel) {
            int count = 0;
            start(quarrel);
            for (int number = 0; number < WAYS; number++) {
                if (spare(quarrel) >= 0) {
                    count++;
                }
                step(quarrel);
            }
            return count;
        }

        /** The fairest way as a number; -1 if none is taken. */
        int fairest(Quarrel quarrel) {
            int best = -1;
            int most = -1;
            start(quarrel);
            for (int number = 0; number < WAYS; number++) {
                int spare = spare(quarrel);
                if (spare > most) {
                    best = number;
                    most = spare;
                }
                step(quarrel);
            }
            return best;
        }

        /** The way nearest to the stands as a number; -1 if none is taken. */
        int nearest(Quarrel quarrel) {
            int best = -1;
            int least = 0;
            start(quarrel);
            for (int number = 0; number < WAYS; number++) {
                if (spare(quarrel) >= 0) {
                    int far = distanceTo(quarrel);
                    if (best < 0 || far < least) {
                        best = number;
                        least = far;
                    }
                }
                step(quarrel);
            }
            return best;
        }

        private void start(Quarrel quarrel) {
            has0 = 0;
            has1 = 0;
            for (int term = 0; term < TERM_COUNT; term++) {
                way[term] = 0;
                has1 += MOST_STAND * quarrel.cares[carePlace(1, term)];
            }
        }

        /** What both sides have is carried along, so that no way need be summed anew. */
        private void step(Quarrel quarrel) {
            for (int term = TERM_COUNT - 1; term >= 0; term--) {
                int care0 = quarrel.cares[carePlace(0, term)];
                int care1 = quarrel.cares[carePlace(1, term)];
                if (way[term] < MOST_STAND) {
                    way[term]++;
                    has0 += care0;
                    has1 -= care1;
                    return;
                }
                way[term] = 0;
                has0 -= MOST_STAND * care0;
                has1 += MOST_STAND * care1;
            }
        }

        /** The lesser of what both sides have above their honour; below 0 if there is no peace. */
        private int spare(Quarrel quarrel) {
            return Math.min(has0 - quarrel.honours[0], has1 - quarrel.honours[1]);
        }

        private int distanceTo(Quarrel quarrel) {
            int sum = 0;
            for (int term = 0; term < TERM_COUNT; term++) {
                sum += Math.abs(way[term] - quarrel.stands[term]);
            }
            return sum;
        }
    }

    /** A text in postfix order: a code of 0 or more is a number, -1 to -3 a name, any other a sign below 0. */
    private static final class Text {
        final int key;
        final int operands;
        final int[] code;
        final int[] stack;

        Text(int key, int operands, int[] code) {
            this.key = key;
            this.operands = operands;
            this.code = code;
            this.stack = new int[Math.max(operands, 1)];
        }

        int workOut(int first, int second, int third) {
            int top = 0;
            for (int i = 0; i < code.length; i++) {
                int c = code[i];
                if (c >= -3) {
                    if (top < stack.length) {
                        stack[top] = c >= 0 ? c : c == -1 ? first : c == -2 ? second : third;
                        top++;
                    }
                } else if (c == -'!') {
                    if (top >= 1) {
                        stack[top - 1] = stack[top - 1] == 0 ? 1 : 0;
                    }
                } else if (top >= 2) {
                    top--;
                    stack[top - 1] = join(-c, stack[top - 1], stack[top]);
                }
            }
            return stack[0];
        }

        private static int join(int sign, int a, int b) {
            switch (sign) {
                case '+': return a + b;
                case '-': return a - b;
                case '*': return a * b;
                case '/': return b == 0 ? 0 : a / b;
                case '<': return a < b ? 1 : 0;
                case '=': return a == b ? 1 : 0;
                case '>': return a > b ? 1 : 0;
                case '&': return a != 0 && b != 0 ? 1 : 0;
                case '|': return a != 0 || b != 0 ? 1 : 0;
                default: return 0;
            }
        }
    }

    private static final class Tape {
        final int[] bytes = new int[MOST_BYTES];
        int length = 0;

        void addBytesOf(int v) {
            for (int shift = 24; shift >= 0 && length < MOST_BYTES; shift -= 8) {
                bytes[length] = (v >>> shift) & 255;
                length++;
            }
        }
    }

    /** Reads the tape as a text, one word or sign ahead. */
    private static final class Reader {
        private static final int END = 0, LETTERS = 1, DIGITS = 2, SIGN = 3, BLANK = 4, WRONG = 5;

        final Tape tape = new Tape();
        /** The place behind the word or sign that was read last. */
        int at = 0;
        int token = END;
        int tokenFrom = 0;
        int fault = -1;
        int key = -1;
        final int[] code = new int[MOST_BYTES];
        int codeLength = 0;
        int operands = 0;
        int openBrackets = 0;
        int openBangs = 0;

        /** The place of the fault, or -1 if the tape is a text. */
        int findFault() {
            at = 0;
            token = END;
            fault = -1;
            codeLength = 0;
            operands = 0;
            openBrackets = 0;
            openBangs = 0;
            advance();
            readKey();
            readOr();
            if (token != END) {
                fail();
            }
            return fault;
        }

        /** The text that was read last; only when it had no fault. */
        Text makeText() {
            return new Text(key, operands, Arrays.copyOf(code, codeLength));
        }

        private void fail() {
            if (fault < 0) {
                fault = tokenFrom;
            }
        }

        private void advance() {
            int behindLast = at;
            boolean lastWasWord = token == LETTERS || token == DIGITS;
            while (at < tape.length && tape.bytes[at] == ' ') {
                at++;
            }
            tokenFrom = at;
            if (at >= tape.length) {
                token = END;
                return;
            }
            token = sortOf(tape.bytes[at]);
            at++;
            if (token == SIGN) {
                return;
            }
            while (at < tape.length && sortOf(tape.bytes[at]) == token) {
                at++;
            }
            boolean needsBlank = lastWasWord && tokenFrom == behindLast;
            if (needsBlank || (token == DIGITS && at - tokenFrom > 4)) {
                token = WRONG;
            }
        }

        private static int sortOf(int b) {
            if (b >= 'a' && b <= 'z') {
                return LETTERS;
            }
            if (b >= '0' && b <= '9') {
                return DIGITS;
            }
            return b == ' ' ? BLANK : SIGN;
        }

        private boolean isSign(int sign) {
            return fault < 0 && token == SIGN && tape.bytes[tokenFrom] == sign;
        }

        private boolean isWord(String word) {
            if (token != LETTERS || at - tokenFrom != word.length()) {
                return false;
            }
            for (int i = 0; i < word.length(); i++) {
                if (tape.bytes[tokenFrom + i] != word.charAt(i)) {
                    return false;
                }
            }
            return true;
        }

        private void readKey() {
            if (isWord("tone")) {
                key = TONE_KEY;
            } else if (isWord("fee")) {
                key = FEE_KEY;
            } else if (isWord("fine")) {
                key = FINE_KEY;
            } else {
                fail();
                return;
            }
            advance();
        }

        private void readOr() {
            readAnd();
            for (int i = 0; i < MOST_BYTES && isSign('|'); i++) {
                advance();
                readAnd();
                emit(-'|');
            }
        }

        private void readAnd() {
            readTest();
            for (int i = 0; i < MOST_BYTES && isSign('&'); i++) {
                advance();
                readTest();
                emit(-'&');
            }
        }

        private void readTest() {
            readSum();
            if (isSign('<') || isSign('=') || isSign('>')) {
                int sign = tape.bytes[tokenFrom];
                advance();
                readSum();
                emit(-sign);
            }
        }

        private void readSum() {
            readProduct();
            for (int i = 0; i < MOST_BYTES && (isSign('+') || isSign('-')); i++) {
                int sign = tape.bytes[tokenFrom];
                advance();
                readProduct();
                emit(-sign);
            }
        }

        private void readProduct() {
            readPiece();
            for (int i = 0; i < MOST_BYTES && (isSign('*') || isSign('/')); i++) {
                int sign = tape.bytes[tokenFrom];
                advance();
                readPiece();
                emit(-sign);
            }
        }

        private void readPiece() {
            if (fault >= 0) {
                return;
            }
            if (token == DIGITS) {
                emitOperand(numberRead());
                advance();
            } else if (nameRead() >= 0) {
                emitOperand(-1 - nameRead());
                advance();
            } else if (isSign('!') && openBangs < MOST_OPEN) {
                openBangs++;
                advance();
                readPiece();
                openBangs--;
                emit(-'!');
            } else if (isSign('(') && openBrackets < MOST_OPEN) {
                openBrackets++;
                advance();
                readOr();
                openBrackets--;
                closeBracket();
            } else {
                fail();
            }
        }

        private void closeBracket() {
            if (isSign(')')) {
                advance();
            } else {
                fail();
            }
        }

        private int numberRead() {
            int number = 0;
            for (int i = tokenFrom; i < at; i++) {
                number = number * 10 + tape.bytes[i] - '0';
            }
            return number;
        }

        /** Which of its key's names the word is; -1 if it is none. */
        private int nameRead() {
            if (token != LETTERS || at - tokenFrom != 1) {
                return -1;
            }
            String names = key == TONE_KEY ? "phs" : key == FEE_KEY ? "lp" : "yn";
            return names.indexOf((char) tape.bytes[tokenFrom]);
        }

        private void emitOperand(int c) {
            operands++;
            emit(c);
        }

        private void emit(int c) {
            if (codeLength < MOST_BYTES) {
                code[codeLength] = c;
                codeLength++;
            }
        }
    }

    /** A sheet, or one that a slot holds; a place of floats that is NO NUMBER holds NONE, which no float can be. */
    private static final class Row {
        int sort = MISSING;
        int size = 0;
        final int[] places = new int[MOST_PLACES];

        void renew(int newSort, int newSize) {
            sort = newSort;
            size = newSize;
            Arrays.fill(places, 0);
        }

        void becomes(Row other) {
            sort = other.sort;
            size = other.size;
            System.arraycopy(other.places, 0, places, 0, MOST_PLACES);
        }

        boolean isMissing() {
            return sort == MISSING;
        }

        boolean isPlace(int place) {
            return within(place, 0, size - 1);
        }

        boolean isNumber(int place) {
            return isPlace(place) && places[place] != NONE;
        }

        boolean hasPlaces(int place, int many) {
            return within(many, 0, size) && within(place, 0, size - many);
        }
    }

    private static final class Slot {
        int thing = EMPTY;
        int kind = FRIEND;
        int pride = 0;
        int number = 0;
        final Row row = new Row();
    }
}
