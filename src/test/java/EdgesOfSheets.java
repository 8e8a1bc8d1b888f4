/** Part 5 of the document's terms and promises 30 to 38, sentence by sentence. */
final class EdgesOfSheets {
    private static final int BAD = Sentences.BAD, NO = Sentences.NO, NONE = Sentences.NONE, NOTHING = Sentences.NOTHING,
            KIND = Sentences.KIND, INDEX = Sentences.INDEX, SIZE = Sentences.SIZE, MIN = Sentences.MIN,
            MAX = Sentences.MAX, TERMS = Sentences.TERMS;
    private static final int[] NO_SHEETS = {-1, 4, MIN, MAX}, NO_SLOTS = {-1, 5, MIN, MAX};
    private final Sentences s;

    EdgesOfSheets(Sentences s) {
        this.s = s;
    }

    void run() {
        sheets();
        slots();
        findings();
        sheet();
        mark();
        pour();
        pourRefused();
        reads();
        copy();
        copyRefused();
        lay();
        ask();
        item();
        rest();
    }

    /** A sheet is laid into slot 4 and looked at place by place. */
    private void rowIs(DuelLetters x, int sheet, int... row) {
        x.lay(4, 2, sheet);
        for (int i = 0; i < row.length; i++) {
            s.is(row[i] == NONE ? KIND : row[i], x.item(4, i), "place " + i + " of sheet " + sheet);
        }
        s.is(INDEX, x.item(4, row.length), "the place behind the last of sheet " + sheet);
    }

    private void sheets() {
        s.says(TERMS, "SHEETS 0 .. 3 are rows of shorts (sort 0) or floats (1; whole numbers), with 0 to 24 places, "
                + "or MISSING (at first).");
        DuelLetters x = new DuelLetters();
        for (int sheet = 0; sheet < 4; sheet++) {
            s.is(NOTHING, x.mark(sheet, 0, 0), "MISSING at first");
            for (int sort = 0; sort < 2; sort++) {
                s.is(0, x.sheet(sheet, sort, 0), "no places");
                s.is(INDEX, x.mark(sheet, 0, 0), "no places");
                s.is(24, x.sheet(sheet, sort, 24), "24 places");
                s.is(1, x.mark(sheet, 23, 40000), "the last place");
                s.is(INDEX, x.mark(sheet, 24, 0), "behind the last place");
                s.is(BAD, x.sheet(sheet, sort, 25), "25 places");
                s.is(SIZE, x.sheet(sheet, sort, -1), "-1 places");
                x.lay(0, 2, sheet);
                s.is(sort == 0 ? 40000 - 65536 : 40000, x.item(0, 23), "of shorts, of floats");
            }
        }
        for (int sheet : NO_SHEETS) s.is(BAD, x.mark(sheet, 0, 0), "no sheet");

        s.says(TERMS, "A place of floats may be NO NUMBER.");
        s.is(1, x.mark(0, 5, NONE), "in a row of floats");
        x.lay(0, 2, 0);
        s.is(KIND, x.item(0, 5), "NO NUMBER");
        s.is(0, x.item(0, 4), "a number ahead of it");
        s.is(1, x.mark(0, 5, -1), "a number again");
        x.lay(0, 2, 0);
        s.is(-1, x.item(0, 5), "a number again");
    }

    private void slots() {
        s.says(TERMS, "SLOTS 0 .. 4 each hold nothing (at first), a FRIEND (as it is then, for good), "
                + "a SHEET (a row of its own, as it was then), or a number.");
        DuelLetters x = new DuelLetters();
        x.friend(2, 0, 9);
        Sentences.marked(x, 1, 0, 8);
        for (int slot = 0; slot < 5; slot++) {
            s.is(NOTHING, x.rest(slot, 1), "nothing at first");
            s.is(0, x.lay(slot, slot % 4, slot % 2 == 1 && slot < 4 ? slot / 2 : 1), "slot " + slot);
        }
        // slots 0 .. 4: nothing, FRIEND 0, SHEET 1, the number 1, nothing
        s.is(NOTHING, x.ask(0, 0), "slot 0 holds nothing");
        s.is(90, x.ask(1, 2), "slot 1 holds the friend");
        s.is(8, x.item(2, 0), "slot 2 holds the sheet");
        s.is(1, x.rest(3, 5), "slot 3 holds the number");
        x.turns(0, 5);
        x.set(0, 2, 50);
        s.is(90, x.ask(1, 2), "the friend as it was then");
        x.mark(1, 0, 7);
        s.is(8, x.item(2, 0), "the row as it was then");
        x.sheet(1, 1, 24);
        s.is(8, x.item(2, 0), "a row of its own");
        s.is(INDEX, x.item(2, 1), "a row of its own");
        x.sheet(1, -1, 0);
        s.is(8, x.item(2, 0), "though the sheet is MISSING");
        // a row that is laid twice is two rows
        Sentences.marked(x, 0, 0, 1, 2);
        x.lay(0, 2, 0);
        Sentences.marked(x, 0, 0, 3, 4);
        x.lay(4, 2, 0);
        s.is(1, x.item(0, 0), "the first row");
        s.is(4, x.item(4, 1), "the second row");
        DuelLetters y = new DuelLetters();
        y.keep();
        y.friend(3, 0, 50);
        y.lay(0, 1, 0);
        y.back();
        y.friend(0, 1, 1);
        s.is(108, y.ask(0, 3), "for good: its number is another friend's now");
        for (int slot : NO_SLOTS) s.is(BAD, x.lay(slot, 0, 0), "no slot");
    }

    private void findings() {
        s.says(TERMS, "FINDINGS: NOTHING: a SHEET is MISSING, a SLOT holds nothing;");
        DuelLetters x = new DuelLetters();
        s.is(NOTHING, x.mark(0, 0, 0), "mark");
        s.is(NOTHING, x.pour(1), "pour");
        s.is(NOTHING, x.reads(2), "reads");
        s.is(NOTHING, x.copy(3, 0, 0, 0, 0), "copy");
        s.is(NOTHING, x.cared(0, 0, 0), "cared");
        s.is(NOTHING, x.lay(0, 2, 0), "lay");
        s.is(NOTHING, x.ask(0, 0), "ask");
        s.is(NOTHING, x.item(0, 0), "item");
        s.is(NOTHING, x.rest(0, 1), "rest");
        x.sheet(0, 0, 0);
        s.is(0, x.pour(0), "no places are not MISSING: pour");
        s.is(NONE, x.reads(0), "no places are not MISSING: reads");
        s.is(0, x.cared(0, 0, 0), "no places are not MISSING: cared");
        s.is(0, x.lay(0, 2, 0), "no places are not MISSING: lay");
        s.is(0, x.copy(0, 0, 0, 0, 0), "no places are not MISSING: copy");

        s.says(TERMS, "INDEX: there is no such place;");
        x.sheet(1, 1, 3);
        x.lay(1, 2, 1);
        for (int place : new int[] {-1, 3, 24, MIN, MAX}) {
            s.is(INDEX, x.mark(1, place, 1), "mark at " + place);
            s.is(INDEX, x.item(1, place), "item at " + place);
            s.is(INDEX, x.copy(1, place, 1, 0, 1), "copy from " + place);
            s.is(INDEX, x.copy(1, 0, 1, place, 1), "copy to " + place);
        }

        s.says(TERMS, "SIZE: a number of places is below 0;");
        s.is(SIZE, x.sheet(1, 0, -1), "shorts");
        s.is(SIZE, x.sheet(1, 1, -1), "floats");
        s.is(SIZE, x.sheet(1, 0, MIN), "shorts");
        s.is(INDEX, x.mark(1, 3, 1), "the sheet is as it was");

        s.says(TERMS, "KIND: it is none (of a KIND, a number, or another thing).");
        x.friend(1, 0, 0);
        x.lay(2, 1, 0);
        s.is(KIND, x.as(0, 3), "no secret one");
        s.is(KIND, x.ask(2, 3), "no secret one in a slot");
        s.is(KIND, x.ask(1, 0), "no friend");
        s.is(KIND, x.item(2, 0), "no sheet");
        s.is(KIND, x.rest(2, 1), "no number");
        x.mark(1, 0, NONE);
        x.lay(3, 2, 1);
        s.is(KIND, x.item(3, 0), "NO NUMBER");
    }

    private void sheet() {
        s.says(30, "A SHEET becomes a row of n places of a sort, all 0 (sort -1: MISSING, n any): n (0).");
        DuelLetters x = new DuelLetters();
        int[] sizes = {0, 1, 23, 24};
        for (int sort = 0; sort < 2; sort++) {
            for (int n : sizes) {
                s.is(n, x.sheet(n % 4, sort, n), "n places");
                rowIs(x, n % 4, new int[n]);
                for (int i = 0; i < n; i++) x.mark(n % 4, i, i + 1);
                s.is(n, x.sheet(n % 4, sort, n), "n places anew");
                rowIs(x, n % 4, new int[n]);
            }
        }
        x = new DuelLetters();
        for (int n : new int[] {0, 5, 24, 25, -1, MIN, MAX}) {
            s.is(2, x.sheet(2, 0, 2), "a row");
            s.is(0, x.sheet(2, -1, n), "MISSING, n " + n);
            s.is(NOTHING, x.mark(2, 0, 1), "MISSING");
            s.is(0, x.sheet(2, -1, n), "MISSING again");
        }
        // a smaller row, then a larger one: what stood behind its end does not come back
        Sentences.marked(x, 0, 0, 1, 2, 3, 4);
        x.sheet(0, 0, 1);
        x.sheet(0, 0, 4);
        rowIs(x, 0, 0, 0, 0, 0);

        s.says(30, "BAD: sheet, sort, n above 24; SIZE.");
        Sentences.marked(x, 0, 0, 6, 7);
        for (int sheet : NO_SHEETS) {
            s.is(BAD, x.sheet(sheet, 0, 1), "no sheet");
            s.is(BAD, x.sheet(sheet, -1, 1), "no sheet, MISSING");
            s.is(BAD, x.sheet(sheet, 0, -1), "no sheet: ahead of SIZE");
        }
        for (int sort : new int[] {-2, 2, MIN, MAX}) {
            s.is(BAD, x.sheet(0, sort, 1), "no sort");
            s.is(BAD, x.sheet(0, sort, -1), "no sort: ahead of SIZE");
        }
        for (int n : new int[] {25, 26, MAX}) s.is(BAD, x.sheet(0, 1, n), "n " + n);
        for (int n : new int[] {-1, -2, MIN}) s.is(SIZE, x.sheet(0, 1, n), "n " + n);
        rowIs(x, 0, 6, 7);
    }

    private void mark() {
        s.says(31, "A place of a SHEET becomes v (of shorts its lowest 16 bits;");
        DuelLetters x = new DuelLetters();
        x.sheet(0, 0, 11);
        int[] values = {0, -1, 32767, 32768, 65535, 65536, -32768, -32769, MAX, MIN, NONE + 1};
        int[] kept = {0, -1, 32767, -32768, -1, 0, -32768, 32767, -1, 0, (short) (NONE + 1)};
        for (int i = 0; i < values.length; i++) s.is(1, x.mark(0, i, values[i]), "v " + values[i]);
        rowIs(x, 0, kept);

        s.says(31, "of floats v, -99999 .. 99999; NONE: NO NUMBER): 1.");
        x.sheet(1, 1, 5);
        int[] floats = {99999, -99999, NONE, 0, 65537};
        for (int i = 0; i < 5; i++) s.is(1, x.mark(1, i, floats[i]), "v " + floats[i]);
        rowIs(x, 1, floats);

        s.says(31, "BAD: sheet; NOTHING; INDEX; KIND: NONE in a row of shorts;");
        for (int sheet : NO_SHEETS) s.is(BAD, x.mark(sheet, 99, NONE), "no sheet");
        s.is(NOTHING, x.mark(2, 99, NONE), "MISSING: ahead of INDEX");
        for (int place : new int[] {-1, 11, 24, MIN, MAX}) s.is(INDEX, x.mark(0, place, NONE), "no place: ahead of KIND");
        s.is(KIND, x.mark(0, 0, NONE), "NONE in a row of shorts");
        s.is(KIND, x.mark(0, 10, NONE), "NONE in a row of shorts");
        rowIs(x, 0, kept);

        s.says(31, "BAD: v of floats.");
        for (int place : new int[] {-1, 5, 24, MIN, MAX}) s.is(INDEX, x.mark(1, place, MAX), "no place: ahead of BAD for v");
        for (int v : new int[] {100000, -100000, MIN, MAX, NONE - 1, NONE + 1, BAD}) s.is(BAD, x.mark(1, 0, v), "v " + v);
        s.is(NOTHING, x.mark(3, 0, MAX), "MISSING: ahead of BAD for v");
        rowIs(x, 1, floats);
    }

    private void pour() {
        s.says(32, "STANDS of TERMS, by numbers, become the places of a SHEET from 0 on");
        DuelLetters x = new DuelLetters();
        Sentences.marked(x, 0, 0, 1, 2, 3, 4, 8);
        s.is(4, x.pour(0), "four terms");
        s.is(1234, x.table(3), "by numbers; a fifth place is left");

        s.says(32, "(each held within 0 .. 9;");
        Sentences.marked(x, 0, 0, -1, 10, -32768, 32767);
        s.is(4, x.pour(0), "held");
        s.is(909, x.table(3), "held");
        Sentences.marked(x, 1, 1, 99999, -99999, 9, 0);
        s.is(4, x.pour(1), "held");
        s.is(9090, x.table(3), "held");

        s.says(32, "NO NUMBER, and beyond the SHEET: they stay):");
        Sentences.marked(x, 1, 1, NONE, 5, NONE);
        s.is(1, x.pour(1), "term 1 alone");
        s.is(9590, x.table(3), "the others stay");
        Sentences.marked(x, 1, 1, 3);
        s.is(1, x.pour(1), "term 0 alone");
        s.is(3590, x.table(3), "the others stay");
        x.sheet(1, 0, 0);
        s.is(0, x.pour(1), "no places");
        s.is(3590, x.table(3), "all stay");

        s.says(32, "how many are otherwise then.");
        Sentences.marked(x, 0, 0, 3, 5, 9, 0);
        s.is(0, x.pour(0), "none");
        Sentences.marked(x, 0, 0, 3, 5, 50, -50);
        s.is(0, x.pour(0), "none, held");
        Sentences.marked(x, 0, 0, 4, 5, 9, 1);
        s.is(2, x.pour(0), "two");
        s.is(0, x.pour(0), "none any more");
    }

    private void pourRefused() {
        s.says(32, "BAD; NOTHING.");
        DuelLetters x = new DuelLetters();
        for (int sheet : NO_SHEETS) s.is(BAD, x.pour(sheet), "no sheet");
        for (int sheet = 0; sheet < 4; sheet++) s.is(NOTHING, x.pour(sheet), "MISSING");
        s.is(5555, x.table(3), "stands behind refusals");
    }

    private void reads() {
        s.says(33, "The first place k (of numbers alone) at which a SHEET is not STANDS as one number behind k POSTS.");
        DuelLetters x = Sentences.withoutLoss();
        x.friend(5, 0, 0);
        x.honour(1, 400);
        int[] due = new int[24];
        for (int k = 0; k < 24; k++) due[k] = x.behind(k, 1);
        s.is(5555, due[0], "stands now");
        s.is(4555, due[1], "behind one post");
        for (int wrong : new int[] {0, 1, 12, 22, 23}) {
            Sentences.marked(x, 0, wrong % 2, due);
            s.is(NONE, x.reads(0), "24 places as due");
            x.mark(0, wrong, due[wrong] + 1);
            s.is(wrong, x.reads(0), "place " + wrong);
            x.mark(0, 23, -1);
            s.is(wrong, x.reads(0), "the first");
        }
        Sentences.marked(x, 1, 1, NONE, 4555, NONE, 0);
        s.is(3, x.reads(1), "of numbers alone");
        Sentences.marked(x, 1, 1, NONE, 0, 3555);
        s.is(1, x.reads(1), "of numbers alone");
        s.is(5555, x.table(3), "nothing is changed");

        s.says(33, "BAD; NOTHING; NONE: there is none.");
        for (int sheet : NO_SHEETS) s.is(BAD, x.reads(sheet), "no sheet");
        s.is(NOTHING, x.reads(2), "MISSING");
        Sentences.marked(x, 1, 1, NONE, NONE);
        s.is(NONE, x.reads(1), "no numbers");
        x.sheet(1, 0, 0);
        s.is(NONE, x.reads(1), "no places");
    }

    private void copy() {
        s.says(34, "So many places of a SHEET come to another one (or the same), as they were: many.");
        DuelLetters x = new DuelLetters();
        Sentences.marked(x, 0, 0, 1, 2, 3, 4);
        Sentences.marked(x, 1, 0, 7, 8, 9);
        s.is(3, x.copy(0, 1, 1, 0, 3), "to another one");
        rowIs(x, 1, 2, 3, 4);
        rowIs(x, 0, 1, 2, 3, 4);
        s.is(3, x.copy(0, 0, 0, 1, 3), "to the same, upwards");
        rowIs(x, 0, 1, 1, 2, 3);
        s.is(3, x.copy(0, 1, 0, 0, 3), "to the same, downwards");
        rowIs(x, 0, 1, 2, 3, 3);
        s.is(4, x.copy(0, 0, 0, 0, 4), "to the same place");
        s.is(0, x.copy(0, 0, 1, 0, 0), "none");
        s.is(0, x.copy(0, 4, 1, 3, 0), "none, at both ends");
        rowIs(x, 1, 2, 3, 4);
        Sentences.marked(x, 2, 1, NONE, 99999);
        x.sheet(3, 1, 24);
        s.is(2, x.copy(2, 0, 3, 22, 2), "floats, up to the last place");
        x.lay(0, 2, 3);
        s.is(KIND, x.item(0, 22), "NO NUMBER comes too");
        s.is(99999, x.item(0, 23), "the last place");
        // the rows stay two: what comes later to the one does not come to the other
        x.mark(2, 1, 5);
        x.lay(0, 2, 3);
        s.is(99999, x.item(0, 23), "as they were");

        s.says(34, "(From a SHEET, its place, to a SHEET, its place.)");
        Sentences.marked(x, 0, 0, 1, 2, 3);
        Sentences.marked(x, 1, 0, 4, 5, 6);
        s.is(1, x.copy(0, 2, 1, 0, 1), "from 0, place 2, to 1, place 0");
        rowIs(x, 1, 3, 5, 6);
        rowIs(x, 0, 1, 2, 3);
    }

    private void copyRefused() {
        s.says(34, "BAD; NOTHING; KIND: they are not of one sort; INDEX.");
        DuelLetters x = new DuelLetters();
        Sentences.marked(x, 0, 0, 1, 2, 3, 4);
        Sentences.marked(x, 1, 1, 7, 8);
        Sentences.marked(x, 2, 0, 5, 6);
        for (int sheet : NO_SHEETS) {
            s.is(BAD, x.copy(sheet, 9, 3, 9, -1), "no sheet: ahead of NOTHING");
            s.is(BAD, x.copy(3, 9, sheet, 9, -1), "no sheet: ahead of NOTHING");
        }
        s.is(NOTHING, x.copy(3, 9, 1, 9, -1), "from one that is MISSING: ahead of KIND, INDEX");
        s.is(NOTHING, x.copy(0, 9, 3, 9, -1), "to one that is MISSING: ahead of KIND, INDEX");
        s.is(NOTHING, x.copy(3, 0, 3, 0, 0), "both are MISSING");
        s.is(KIND, x.copy(0, 9, 1, 9, -1), "shorts to floats: ahead of INDEX");
        s.is(KIND, x.copy(1, 0, 0, 0, 0), "floats to shorts, none of them");
        int[][] rows = {{-1, 0, 1}, {4, 0, 1}, {5, 0, 0}, {-1, 0, 0}, {0, -1, 1}, {0, 2, 1}, {0, 3, 0}, {0, -1, 0}, {3, 0, 2},
            {0, 1, 2}, {0, 0, 3}, {0, 0, 5}, {0, 0, -1}, {1, 1, -1}, {0, 0, MIN}, {0, 0, MAX}, {1, 1, MAX}, {MAX, 0, 1},
            {0, MAX, 1}, {MAX, MAX, MAX}, {MIN, MIN, MIN}, {MIN, 0, 1}, {0, MIN, 1}, {MAX, 0, MIN}};
        for (int[] r : rows) {
            s.is(INDEX, x.copy(0, r[0], 2, r[1], r[2]), "copy(0, " + r[0] + ", 2, " + r[1] + ", " + r[2] + ")");
        }
        rowIs(x, 0, 1, 2, 3, 4);
        rowIs(x, 2, 5, 6);
    }

    private void lay() {
        s.says(35, "A SLOT holds: thing 0 nothing, 1 FRIEND k, 2 SHEET k, 3 the number k: what it held (0 .. 3).");
        DuelLetters x = new DuelLetters();
        for (int i = 0; i < 8; i++) x.friend(0, 0, 10 + i);
        for (int i = 0; i < 4; i++) Sentences.marked(x, i, i % 2, 20 + i);
        for (int from = 0; from < 4; from++) {
            for (int to = 0; to < 4; to++) {
                x.lay(2, from, 3);
                s.is(from, x.lay(2, to, 3), "from " + from + " to " + to);
            }
        }
        s.is(0, x.rest(2, 3), "the number 3");
        x.lay(2, 1, 7);
        s.is(17, x.ask(2, 0), "friend 7");
        x.lay(2, 1, 0);
        s.is(10, x.ask(2, 0), "friend 0");
        for (int i = 0; i < 4; i++) {
            x.lay(2, 2, i);
            s.is(20 + i, x.item(2, 0), "sheet " + i);
        }
        for (int k : new int[] {MIN, -1, 0, MAX}) {
            x.lay(2, 3, k);
            s.is(k % 1000, x.rest(2, 1000), "the number " + k);
            s.is(3, x.lay(2, 0, k), "nothing, k any");
        }

        s.says(35, "BAD: slot, thing, k; NOTHING: that SHEET is MISSING.");
        x = new DuelLetters();
        x.friend(0, 0, 0);
        x.lay(4, 3, 77);
        for (int slot : NO_SLOTS) {
            s.is(BAD, x.lay(slot, 0, 0), "no slot");
            s.is(BAD, x.lay(slot, 2, 0), "no slot: ahead of NOTHING");
        }
        for (int thing : new int[] {-1, 4, MIN, MAX}) s.is(BAD, x.lay(4, thing, 0), "no thing");
        for (int k : new int[] {-1, 1, 8, MIN, MAX}) s.is(BAD, x.lay(4, 1, k), "no friend");
        for (int k : NO_SHEETS) s.is(BAD, x.lay(4, 2, k), "no sheet");
        for (int k = 0; k < 4; k++) s.is(NOTHING, x.lay(4, 2, k), "that sheet is MISSING");
        s.is(77, x.rest(4, 100), "the slot behind refusals");
    }

    private void ask() {
        s.says(36, "WORTH of the FRIEND in a SLOT, taken for one of a KIND (0 .. 5).");
        DuelLetters x = Sentences.sixKinds(1, 99);
        int[] worth = {99, 103, 0, 206, -9, 7};
        String[] of = {"0", "01", "02", "013", "024", "05"};
        for (int f = 0; f < 6; f++) {
            x.lay(f % 5, 1, f);
            for (int kind = 0; kind < 6; kind++) {
                // its worth stays that of its own kind
                boolean is = of[f].indexOf('0' + kind) >= 0;
                s.is(is ? worth[f] : KIND, x.ask(f % 5, kind), "kind " + f + " taken for " + kind);
            }
        }

        s.says(36, "BAD; NOTHING; KIND: it is no FRIEND, or not of that KIND, nor of one under it.");
        x = new DuelLetters();
        x.sheet(0, 0, 1);
        x.lay(1, 2, 0);
        x.lay(2, 3, 0);
        for (int slot : NO_SLOTS) s.is(BAD, x.ask(slot, 0), "no slot");
        for (int kind : new int[] {-1, 6, MIN, MAX}) {
            s.is(BAD, x.ask(0, kind), "no kind: ahead of NOTHING");
            s.is(BAD, x.ask(1, kind), "no kind: ahead of KIND");
        }
        for (int kind = 0; kind < 6; kind++) {
            s.is(NOTHING, x.ask(0, kind), "nothing");
            s.is(KIND, x.ask(1, kind), "a sheet");
            s.is(KIND, x.ask(2, kind), "a number");
        }
        x.friend(1, 0, 0);
        x.lay(3, 1, 0);
        s.is(KIND, x.ask(3, 3), "a hot one is no secret one");
        s.is(KIND, x.ask(3, 2), "a hot one is no lazy one");
        s.is(4, x.ask(3, 0), "a hot one is a friend");
    }

    private void item() {
        s.says(37, "A place of the SHEET in a SLOT.");
        DuelLetters x = new DuelLetters();
        x.sheet(0, 0, 24);
        x.mark(0, 0, -32768);
        x.mark(0, 23, 32767);
        Sentences.marked(x, 1, 1, 99999, -99999, NONE);
        x.lay(0, 2, 0);
        x.lay(4, 2, 1);
        s.is(-32768, x.item(0, 0), "the first of 24");
        s.is(32767, x.item(0, 23), "the last of 24");
        s.is(0, x.item(0, 22), "one that was not marked");
        s.is(99999, x.item(4, 0), "a float");
        s.is(-99999, x.item(4, 1), "a float");

        s.says(37, "BAD: slot; NOTHING; KIND: it is no SHEET; INDEX; KIND: NO NUMBER.");
        for (int slot : NO_SLOTS) s.is(BAD, x.item(slot, 99), "no slot");
        s.is(NOTHING, x.item(1, 99), "nothing: ahead of INDEX");
        x.lay(1, 3, 0);
        s.is(KIND, x.item(1, 99), "a number: ahead of INDEX");
        x.friend(0, 0, 0);
        x.lay(1, 1, 0);
        s.is(KIND, x.item(1, -1), "a friend: ahead of INDEX");
        for (int place : new int[] {-1, 24, MIN, MAX}) s.is(INDEX, x.item(0, place), "no place of 24");
        for (int place : new int[] {-1, 3, 23, MIN, MAX}) s.is(INDEX, x.item(4, place), "no place of 3");
        s.is(KIND, x.item(4, 2), "NO NUMBER");
        x.sheet(0, 0, 0);
        x.lay(0, 2, 0);
        s.is(INDEX, x.item(0, 0), "no places");
    }

    private void rest() {
        s.says(38, "The rest of the number in a SLOT by n.");
        DuelLetters x = new DuelLetters();
        int[][] rows = {{7, 3, 1}, {-7, 3, -1}, {7, -3, 1}, {-7, -3, -1}, {0, 5, 0}, {5, 5, 0}, {5, 1, 0}, {5, -1, 0},
            {MIN, -1, 0}, {MIN, MIN, 0}, {MAX, MIN, MAX}, {MIN, MAX, -1}, {3, MAX, 3}};
        for (int[] r : rows) {
            x.lay(1, 3, r[0]);
            s.is(r[2], x.rest(1, r[1]), "rest of " + r[0] + " by " + r[1]);
        }

        s.says(38, "BAD: slot; NOTHING; KIND: it is no number; NO: n is 0.");
        for (int slot : NO_SLOTS) s.is(BAD, x.rest(slot, 0), "no slot: ahead of NO");
        s.is(NOTHING, x.rest(0, 0), "nothing: ahead of NO");
        x.sheet(0, 0, 1);
        x.lay(0, 2, 0);
        s.is(KIND, x.rest(0, 0), "a sheet: ahead of NO");
        x.friend(0, 0, 0);
        x.lay(2, 1, 0);
        s.is(KIND, x.rest(2, 0), "a friend: ahead of NO");
        s.is(NO, x.rest(1, 0), "n is 0");
        x.lay(3, 3, 0);
        s.is(NO, x.rest(3, 0), "n is 0, the number too");
        s.is(0, x.rest(3, 1), "the number 0");
    }
}
