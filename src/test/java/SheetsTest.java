/** Promises 30 to 38: sheets and slots. Worked out by hand from the document. */
public final class SheetsTest {
    private static final int BAD = DuelLetters.BAD, NONE = DuelLetters.NONE, NOTHING = DuelLetters.NOTHING,
            KIND = DuelLetters.KIND, INDEX = DuelLetters.INDEX, SIZE = DuelLetters.SIZE, NO = DuelLetters.NO;
    private static final int MIN = Integer.MIN_VALUE, MAX = Integer.MAX_VALUE;
    private static final Due due = new Due();

    public static void main(String[] args) {
        sheet();
        mark();
        pour();
        reads();
        copy();
        copyIndex();
        lay();
        ask();
        item();
        rest();
        due.end();
    }

    /** A sheet laid in a slot is looked at place by place. */
    private static void rowIs(DuelLetters x, int sheet, int... row) {
        x.lay(4, 2, sheet);
        for (int i = 0; i < row.length; i++) {
            due.is(row[i] == NONE ? KIND : row[i], x.item(4, i), "place " + i + " of sheet " + sheet);
        }
        due.is(INDEX, x.item(4, row.length), "the place behind the last");
    }

    private static void marked(DuelLetters x, int sheet, int sort, int... row) {
        x.sheet(sheet, sort, row.length);
        for (int i = 0; i < row.length; i++) x.mark(sheet, i, row[i]);
    }

    private static void sheet() {
        due.promise(30);
        DuelLetters x = new DuelLetters();
        due.is(3, x.sheet(0, 0, 3), "shorts");
        rowIs(x, 0, 0, 0, 0);
        x.mark(0, 1, 7);
        due.is(24, x.sheet(0, 1, 24), "floats");
        rowIs(x, 0, new int[24]);
        due.is(0, x.sheet(0, 0, 0), "no places");
        rowIs(x, 0);
        due.is(INDEX, x.mark(0, 0, 1), "no places are not MISSING");
        due.is(2, x.sheet(3, 0, 2), "the last sheet");
        due.is(0, x.sheet(3, -1, 99), "MISSING, n any");
        due.is(NOTHING, x.mark(3, 0, 1), "MISSING");
        x.sheet(3, 0, 2);
        due.is(0, x.sheet(3, -1, MIN), "MISSING, n any");
        due.is(NOTHING, x.pour(3), "MISSING");
        x.sheet(1, 0, 2);
        x.mark(1, 0, 5);
        int[][] bad = {{-1, 0, 1}, {4, 0, 1}, {1, -2, 1}, {1, 2, 1}, {1, 0, 25}, {1, 1, MAX}, {MIN, 0, 1}, {1, MAX, 1}, {4, 0, -1}, {1, 2, -1}, {4, -1, 0}};
        for (int[] b : bad) due.is(BAD, x.sheet(b[0], b[1], b[2]), "sheet with a wrong number");
        due.is(SIZE, x.sheet(1, 0, -1), "below 0");
        due.is(SIZE, x.sheet(1, 1, MIN), "below 0");
        rowIs(x, 1, 5, 0);
    }

    private static void mark() {
        due.promise(31);
        DuelLetters x = new DuelLetters();
        due.is(NOTHING, x.mark(0, 0, 1), "MISSING");
        x.sheet(0, 0, 6);
        int[] values = {32767, 32768, -32769, 65536 + 12, MIN, MAX};
        int[] kept = {32767, -32768, 32767, 12, 0, -1};
        for (int i = 0; i < 6; i++) due.is(1, x.mark(0, i, values[i]), "mark of shorts");
        rowIs(x, 0, kept);
        due.is(KIND, x.mark(0, 0, NONE), "NONE in a row of shorts");
        rowIs(x, 0, kept);
        x.sheet(1, 1, 3);
        due.is(1, x.mark(1, 0, 99999), "mark of floats");
        due.is(1, x.mark(1, 1, -99999), "mark of floats");
        due.is(1, x.mark(1, 2, NONE), "NO NUMBER");
        rowIs(x, 1, 99999, -99999, NONE);
        for (int v : new int[] {100000, -100000, MIN, MAX, BAD, NONE - 1, NONE + 1}) due.is(BAD, x.mark(1, 0, v), "v of floats");
        rowIs(x, 1, 99999, -99999, NONE);
        due.is(1, x.mark(1, 2, 0), "a number again");
        rowIs(x, 1, 99999, -99999, 0);
        for (int p : new int[] {-1, 3, 24, MIN, MAX}) due.is(INDEX, x.mark(1, p, 0), "no place");
        due.is(INDEX, x.mark(0, 6, NONE), "INDEX stands ahead of KIND");
        due.is(INDEX, x.mark(1, 3, MAX), "INDEX stands ahead of BAD for v");
        for (int s : new int[] {-1, 4, MIN, MAX}) due.is(BAD, x.mark(s, 0, 0), "no sheet");
        due.is(NOTHING, x.mark(2, 99, MAX), "NOTHING stands ahead of INDEX");
    }

    private static void pour() {
        due.promise(32);
        DuelLetters x = new DuelLetters();
        due.is(NOTHING, x.pour(0), "MISSING");
        marked(x, 0, 0, 1, 5, -3, 10, 7);
        due.is(3, x.pour(0), "1, 0 and 9 are new; a fifth place is left");
        due.is(1509, x.table(3), "stands");
        due.is(0, x.pour(0), "nothing is new");
        marked(x, 1, 1, NONE, 99999, -99999);
        due.is(1, x.pour(1), "9 is new; 0 was; NO NUMBER and beyond stay");
        due.is(1909, x.table(3), "stands");
        x.sheet(2, 1, 0);
        due.is(0, x.pour(2), "no places");
        due.is(1909, x.table(3), "stands");
        for (int s : new int[] {-1, 4, MIN, MAX}) due.is(BAD, x.pour(s), "no sheet");
    }

    private static void reads() {
        due.promise(33);
        DuelLetters x = new DuelLetters();
        x.rule(2, 0);
        x.honour(0, 400);
        x.friend(5, 0, 0);
        due.is(NOTHING, x.reads(0), "MISSING");
        x.sheet(0, 0, 0);
        due.is(NONE, x.reads(0), "no places");
        // behind k posts: 5555, 4555, 3555, ..
        marked(x, 0, 0, 5555, 4555, 3555);
        due.is(NONE, x.reads(0), "all as they will be");
        x.mark(0, 2, 3556);
        due.is(2, x.reads(0), "the third is not");
        x.mark(0, 0, 0);
        due.is(0, x.reads(0), "the first is not");
        marked(x, 1, 1, NONE, 4555, NONE, 2555, 5);
        due.is(4, x.reads(1), "of numbers alone");
        x.mark(1, 4, NONE);
        due.is(NONE, x.reads(1), "of numbers alone");
        marked(x, 2, 1, NONE, NONE);
        due.is(NONE, x.reads(2), "no number at all");
        due.is(5555, x.table(3), "nothing is changed");
        due.is(0, x.told(0, 3), "nothing is changed");
        x.sheet(3, 0, 24);
        for (int k = 0; k < 24; k++) x.mark(3, k, k < 20 ? x.behind(k, 1) : 0);
        due.is(NONE, x.reads(3), "24 places");
        x.mark(3, 23, 1);
        due.is(23, x.reads(3), "the last of 24 places");
        for (int s : new int[] {-1, 4, MIN, MAX}) due.is(BAD, x.reads(s), "no sheet");
    }

    private static void copy() {
        due.promise(34);
        DuelLetters x = new DuelLetters();
        marked(x, 0, 0, 1, 2, 3, 4, 5);
        marked(x, 1, 0, 9, 8, 7);
        marked(x, 2, 1, 6, NONE, 4);
        due.is(2, x.copy(0, 3, 1, 0, 2), "copy");
        rowIs(x, 1, 4, 5, 7);
        rowIs(x, 0, 1, 2, 3, 4, 5);
        due.is(4, x.copy(0, 0, 0, 1, 4), "copy upwards in itself");
        rowIs(x, 0, 1, 1, 2, 3, 4);
        due.is(3, x.copy(0, 2, 0, 0, 3), "copy downwards in itself");
        rowIs(x, 0, 2, 3, 4, 3, 4);
        due.is(2, x.copy(2, 0, 2, 1, 2), "NO NUMBER comes too");
        rowIs(x, 2, 6, 6, NONE);
        due.is(0, x.copy(0, 5, 1, 3, 0), "none, at the ends");
        due.is(5, x.copy(0, 0, 0, 0, 5), "all");
        due.is(KIND, x.copy(0, 0, 2, 0, 1), "shorts to floats");
        due.is(KIND, x.copy(2, 0, 0, 0, 1), "floats to shorts");
        due.is(KIND, x.copy(2, 9, 0, 0, 1), "KIND stands ahead of INDEX");
        due.is(NOTHING, x.copy(3, 9, 0, 0, 1), "from a sheet that is MISSING");
        due.is(NOTHING, x.copy(0, 0, 3, 0, 1), "to a sheet that is MISSING");
        due.is(NOTHING, x.copy(3, 0, 3, 0, 0), "both MISSING");
        for (int s : new int[] {-1, 4, MIN, MAX}) {
            due.is(BAD, x.copy(s, 0, 3, 0, 1), "no sheet");
            due.is(BAD, x.copy(3, 0, s, 0, 1), "no sheet");
        }
    }

    private static void copyIndex() {
        DuelLetters x = new DuelLetters();
        marked(x, 0, 0, 1, 2, 3, 4, 5);
        marked(x, 1, 0, 9, 8, 7);
        int[][] none = {{-1, 0, 1}, {0, -1, 1}, {5, 0, 1}, {0, 3, 1}, {4, 0, 2}, {0, 2, 2}, {0, 0, 4}, {0, 0, 6},
            {6, 0, 0}, {0, 4, 0}, {0, 0, -1}, {3, 0, -1}, {0, 0, MIN}, {0, 0, MAX}, {MAX, 0, 1}, {1, 0, MAX},
            {MAX, MAX, MAX}, {MIN, 0, MIN}, {0, MIN, 1}, {-1, 0, 0}};
        for (int[] n : none) {
            due.is(INDEX, x.copy(0, n[0], 1, n[1], n[2]), "copy(0, " + n[0] + ", 1, " + n[1] + ", " + n[2] + ")");
        }
        rowIs(x, 1, 9, 8, 7);
    }

    private static void lay() {
        due.promise(35);
        DuelLetters x = new DuelLetters();
        x.friend(1, 0, 10);
        x.sheet(2, 0, 1);
        int[][] lays = {{1, 0}, {2, 2}, {3, -99}, {0, MIN}, {3, MAX}, {2, 2}, {1, 0}, {0, MAX}};
        int held = 0;
        for (int[] l : lays) {
            due.is(held, x.lay(4, l[0], l[1]), "lay");
            held = l[0];
        }
        due.is(0, x.lay(0, 3, 5), "each slot is its own");
        int[][] bad = {{-1, 0, 0}, {5, 0, 0}, {0, -1, 0}, {0, 4, 0}, {0, 1, 1}, {0, 1, -1}, {0, 1, 8}, {0, 2, 4}, {0, 2, -1}, {MIN, 3, 0}, {0, MAX, 0}, {0, 1, MAX}, {0, 2, MIN}, {5, 2, 0}};
        for (int[] b : bad) due.is(BAD, x.lay(b[0], b[1], b[2]), "lay with a wrong number");
        due.is(NOTHING, x.lay(0, 2, 1), "that sheet is MISSING");
        due.is(1, x.rest(0, 2), "refusals change nothing");
        due.is(3, x.lay(0, 0, 0), "what it held");
        due.is(NOTHING, x.rest(0, 2), "nothing");
    }

    private static void ask() {
        due.promise(36);
        DuelLetters x = new DuelLetters();
        for (int kind = 0; kind < 6; kind++) x.friend(kind, 0, 20);
        int[] worth = {20, 24, 79, 48, 70, 7};
        int[] under = {1, 3, 5, 11, 21, 33};
        for (int f = 0; f < 6; f++) {
            x.lay(f % 5, 1, f);
            for (int kind = 0; kind < 6; kind++) {
                boolean is = (under[f] >> kind & 1) == 1;
                due.is(is ? worth[f] : KIND, x.ask(f % 5, kind), "ask friend " + f + " as " + kind);
            }
        }
        // friend 5 lies in slot 0; it is kept as it was then
        x.turns(5, 1);
        x.set(5, 2, 99);
        due.is(7, x.ask(0, 5), "as it was then");
        due.is(KIND, x.ask(0, 1), "as it was then");
        x.lay(1, 1, 5);
        due.is(103, x.ask(1, 1), "as it is now");
        x.lay(2, 3, 1);
        due.is(KIND, x.ask(2, 0), "a number is no friend");
        x.sheet(0, 0, 1);
        x.lay(2, 2, 0);
        due.is(KIND, x.ask(2, 0), "a sheet is no friend");
        x.lay(2, 0, 0);
        due.is(NOTHING, x.ask(2, 0), "nothing");
        for (int s : new int[] {-1, 5, MIN, MAX}) due.is(BAD, x.ask(s, 0), "no slot");
        for (int k : new int[] {-1, 6, MIN, MAX}) due.is(BAD, x.ask(2, k), "no kind: BAD stands first");
        // a slot outlives the friends of an image
        DuelLetters y = new DuelLetters();
        y.keep();
        y.friend(2, 0, 9);
        y.lay(0, 1, 0);
        y.back();
        due.is(90, y.ask(0, 2), "for good");
    }

    private static void item() {
        due.promise(37);
        DuelLetters x = new DuelLetters();
        marked(x, 0, 1, 3, NONE);
        x.lay(1, 2, 0);
        due.is(3, x.item(1, 0), "item");
        due.is(KIND, x.item(1, 1), "NO NUMBER");
        for (int p : new int[] {-1, 2, 24, MIN, MAX}) due.is(INDEX, x.item(1, p), "no place");
        // a row of its own
        x.mark(0, 0, 8);
        due.is(3, x.item(1, 0), "as it was then");
        x.sheet(0, -1, 0);
        due.is(3, x.item(1, 0), "as it was then");
        due.is(NOTHING, x.item(0, -1), "nothing: ahead of INDEX");
        x.lay(0, 3, 1);
        due.is(KIND, x.item(0, 99), "a number is no sheet: ahead of INDEX");
        x.friend(0, 0, 0);
        x.lay(0, 1, 0);
        due.is(KIND, x.item(0, 0), "a friend is no sheet");
        for (int s : new int[] {-1, 5, MIN, MAX}) due.is(BAD, x.item(s, 0), "no slot");
    }

    private static void rest() {
        due.promise(38);
        DuelLetters x = new DuelLetters();
        int[][] rows = {{17, 5, 2}, {-17, 5, -2}, {17, -5, 2}, {MIN, -1, 0}, {MIN, MAX, -1}, {0, 3, 0}, {MAX, MIN, MAX}};
        for (int[] r : rows) {
            x.lay(3, 3, r[0]);
            due.is(r[2], x.rest(3, r[1]), "rest of " + r[0] + " by " + r[1]);
            due.is(NO, x.rest(3, 0), "by 0");
        }
        due.is(NOTHING, x.rest(0, 0), "nothing: ahead of NO");
        x.sheet(0, 0, 1);
        x.lay(0, 2, 0);
        due.is(KIND, x.rest(0, 0), "no number: ahead of NO");
        x.friend(0, 0, 0);
        x.lay(0, 1, 0);
        due.is(KIND, x.rest(0, 1), "no number");
        for (int s : new int[] {-1, 5, MIN, MAX}) due.is(BAD, x.rest(s, 0), "no slot");
    }
}
