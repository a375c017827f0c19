/** The edges that part 5 of the terms names of SHEETS and SLOTS, and those of promises 35 to 42, sentence by sentence. */
public final class SheetsEdgesTest {
    private static final Due due = new Due();
    private static final int BAD = Due.BAD, NO = Due.NO, FULL = Due.FULL, NONE = Due.NONE;
    private static final int NOTHING = Due.NOTHING, KIND = Due.KIND, INDEX = Due.INDEX, SIZE = Due.SIZE;
    private static final Run NEW = new Run();
    /** Floats 7, NO NUMBER, 9, 10 in SHEET 0, shorts 1, 2, 3 in SHEET 1, no places in SHEET 2, SHEET 3 is MISSING. */
    private static final Run SHEETS = new Run("sheet 0 0 4", "mark 0 0 7", "mark 0 1 NONE", "mark 0 2 9", "mark 0 3 10",
        "sheet 1 1 3", "mark 1 0 1", "mark 1 1 2", "mark 1 2 3", "sheet 2 0 0");
    /** SLOT 0 holds nothing, 1 a FITTED FIGURE, 2 SHEET 0, 3 the number -17, 4 SHEET 1. */
    private static final Run SLOTS = SHEETS.then("table 5", "figure 0 7 7000 250 -1", "lay 1 1 0", "lay 2 2 0", "lay 3 3 -17", "lay 4 2 1");

    public static void main(String[] args) {
        sheets();
        marks();
        prints();
        fullPrints();
        copies();
        refusedCopies();
        findings();
        lays();
        heldForGood();
        asks();
        items();
        rests();
        due.end();
    }

    private static void sheets() {
        String at = "with 0 to 24 places, or MISSING (at first).";
        for (int sheet = 0; sheet < 4; sheet++) {
            due.refuses(at, NEW, NOTHING, "mark " + sheet + " 0 0", "lay 0 2 " + sheet, "copy " + sheet + " 0 " + sheet + " 0 0");
            due.says("SHEETS 0 .. 3 are rows of floats (sort 0; whole numbers) or shorts (1)", NEW, "sheet " + sheet + " 0 1", 1, "sheet " + sheet + " 1 1", 1, "mark " + sheet + " 0 5", 1);
        }
        due.says(at, NEW, "sheet 0 0 0", 0, "mark 0 0 1", INDEX, "sheet 0 0 24", 24, "mark 0 23 1", 1, "mark 0 24 1", INDEX);
        due.says(at, NEW, "sheet 0 1 0", 0, "mark 0 0 1", INDEX, "sheet 0 1 24", 24, "mark 0 23 1", 1, "mark 0 24 1", INDEX);
        String becomes = "A SHEET becomes a row of n places of a sort, all 0 (sort -1: MISSING, n any): n (0).";
        due.says(becomes, SHEETS, "sheet 0 0 4", 4, "lay 0 2 0", 0, "item 0 0", 0, "item 0 1", 0, "item 0 3", 0, "item 0 4", INDEX);
        due.says(becomes, SHEETS, "sheet 0 0 2", 2, "sheet 0 0 4", 4, "lay 0 2 0", 0, "item 0 2", 0, "item 0 3", 0);
        due.says(becomes, SHEETS, "sheet 0 -1 25", 0, "mark 0 0 1", NOTHING, "sheet 1 -1 MIN", 0, "mark 1 0 1", NOTHING, "sheet 3 -1 MAX", 0, "sheet 3 -1 -1", 0);
        String order = "BAD: sheet, sort, n above 24; SIZE.";
        due.refuses(order, SHEETS, BAD, "sheet -1 0 4", "sheet 4 0 4", "sheet MIN 0 4", "sheet MAX 0 4", "sheet 0 -2 4", "sheet 0 2 4", "sheet 0 MIN 4", "sheet 0 MAX 4");
        due.refuses(order, SHEETS, BAD, "sheet 0 0 25", "sheet 1 1 25", "sheet 0 0 MAX", "sheet 4 0 -1", "sheet 0 2 -1", "sheet 4 -1 0");
        due.refuses("SIZE: a number of places is below 0", SHEETS, SIZE, "sheet 0 0 -1", "sheet 1 1 -1", "sheet 3 0 -1", "sheet 0 1 MIN");
    }

    private static void marks() {
        due.says("A place of floats may be NO NUMBER.", SHEETS, "mark 0 0 NONE", 1, "mark 0 3 NONE", 1, "lay 0 2 0", 0, "item 0 0", KIND, "item 0 3", KIND, "mark 0 0 1", 1, "lay 0 2 0", 2, "item 0 0", 1);
        due.says("A place of a SHEET becomes v", SHEETS, "mark 0 0 8", 1, "mark 1 2 8", 1, "lay 0 2 0", 0, "item 0 0", 8, "item 0 2", 9, "lay 0 2 1", 2, "item 0 2", 8, "item 0 1", 2);
        String shorts = "of shorts its lowest 16 bits";
        due.says(shorts, SHEETS, "mark 1 0 32767", 1, "mark 1 1 32768", 1, "mark 1 2 -1", 1, "lay 0 2 1", 0, "item 0 0", 32767, "item 0 1", -32768, "item 0 2", -1);
        due.says(shorts, SHEETS, "mark 1 0 65535", 1, "mark 1 1 65536", 1, "mark 1 2 70000", 1, "lay 0 2 1", 0, "item 0 0", -1, "item 0 1", 0, "item 0 2", 4464);
        due.says(shorts, SHEETS, "mark 1 0 MIN", 1, "mark 1 1 MAX", 1, "mark 1 2 -32769", 1, "lay 0 2 1", 0, "item 0 0", 0, "item 0 1", -1, "item 0 2", 32767);
        String floats = "of floats v, -99999 .. 99999; NONE: NO NUMBER";
        due.says(floats, SHEETS, "mark 0 0 -99999", 1, "mark 0 3 99999", 1, "mark 0 2 NONE", 1, "mark 0 1 0", 1, "lay 0 2 0", 0, "item 0 0", -99999, "item 0 1", 0, "item 0 2", KIND, "item 0 3", 99999);
        due.refuses("BAD: v of floats.", SHEETS, BAD, "mark 0 0 100000", "mark 0 0 -100000", "mark 0 0 MIN", "mark 0 0 MAX", "mark 0 1 BAD");
        String order = "BAD: sheet; NOTHING; INDEX; KIND: NONE in a row of shorts; BAD: v of floats.";
        due.refuses(order, SHEETS, BAD, "mark -1 0 0", "mark 4 0 0", "mark MIN 0 0", "mark MAX 0 0", "mark 4 -1 100000");
        due.refuses(order, SHEETS, NOTHING, "mark 3 0 0", "mark 3 -1 0", "mark 3 0 100000", "mark 3 0 NONE");
        due.refuses(order, SHEETS, INDEX, "mark 0 -1 0", "mark 0 4 0", "mark 0 MIN 0", "mark 0 MAX 0", "mark 1 3 0", "mark 2 0 0");
        due.refuses(order, SHEETS, INDEX, "mark 1 3 NONE", "mark 0 4 100000", "mark 0 -1 100000");
        due.refuses(order, SHEETS, KIND, "mark 1 0 NONE", "mark 1 2 NONE");
    }

    private static void prints() {
        String come = "FIGURES of a TABLE come, MEASURED, of PAIRS n, FROM none, with VALUES of a SHEET from place 0 on, up to the first that is NO NUMBER or not 0 .. 9999, or the end: how many came.";
        Run run = SHEETS.then("table 5", "table 6");
        due.says(come, run, "print 1 0 33", 1, "count 1", 1, "told 0 0", 1, "told 0 1", 1, "told 0 2", 7, "told 0 3", 33, "told 0 4", NONE);
        due.says(come, run, "print 0 1 1", 3, "told 0 2", 1, "told 2 2", 3, "told 2 3", 1, "print 0 2 999", 0, "count 1", 3);
        due.says(come, run.then("mark 0 0 0", "mark 0 1 9999", "mark 0 2 10000"), "print 0 0 999", 2, "told 0 2", 0, "told 1 2", 9999);
        due.says(come, run.then("mark 0 1 5", "mark 0 2 -1"), "print 0 0 5", 2, "count 1", 2);
        due.says(come, run.then("mark 0 0 NONE"), "print 0 0 5", 0, "count 1", 0);
        due.says(come, run.then("mark 1 1 10000"), "print 0 1 5", 1, "count 1", 1);
        due.says(come, run.then("mark 1 1 40000"), "print 0 1 5", 1, "count 1", 1); // below 0 as a short
        due.says(come, run.then("sheet 0 0 24"), "print 0 0 5", 24, "count 1", 24);
        String order = "BAD: table, sheet, n; NOTHING; FULL: they have no room (none comes then).";
        due.refuses(order, run, BAD, "print -1 0 5", "print 2 0 5", "print MIN 0 5", "print MAX 0 5", "print 0 -1 5", "print 0 4 5", "print 0 MIN 5", "print 0 MAX 5");
        due.refuses(order, run, BAD, "print 0 0 0", "print 0 0 1000", "print 0 0 MIN", "print 0 0 MAX", "print 2 3 5", "print 0 3 0");
        due.refuses(order, SHEETS, BAD, "print 0 0 5");
        due.refuses(order, run, NOTHING, "print 0 3 5");
    }

    private static void fullPrints() {
        String room = "FULL: they have no room (none comes then).";
        Run run = SHEETS.then("table 5", "table 6").times(37, "figure 0 0 5 5 -1");
        due.says(room, run, "print 0 1 5", 3, "count 1", 40, "told 39 2", 3);
        Run less = run.then("figure 0 0 5 5 -1");
        due.refuses(room, less, FULL, "print 0 1 5", "print 1 1 999");
        due.says(room, less, "print 0 0 5", 1, "count 1", 39);
        Run full = run.times(3, "figure 0 0 5 5 -1");
        due.refuses(room, full, FULL, "print 0 0 5", "print 0 1 5");
        due.says(room, full, "print 0 2 5", 0, "count 1", 40); // none need no room
        due.refuses("BAD: table, sheet, n; NOTHING; FULL", full, NOTHING, "print 0 3 5");
        due.refuses("BAD: table, sheet, n; NOTHING; FULL", full, BAD, "print 2 1 5", "print 0 4 5", "print 0 1 0", "print 0 1 1000");
    }

    private static void copies() {
        String come = "So many places of a SHEET come to another one (or the same), as they were: many.";
        due.says(come, SHEETS, "copy 0 0 0 1 3", 3, "lay 0 2 0", 0, "item 0 0", 7, "item 0 1", 7, "item 0 2", KIND, "item 0 3", 9);
        due.says(come, SHEETS, "copy 0 1 0 0 3", 3, "lay 0 2 0", 0, "item 0 0", KIND, "item 0 1", 9, "item 0 2", 10, "item 0 3", 10);
        due.says(come, SHEETS.then("sheet 3 0 6"), "copy 0 0 3 2 4", 4, "lay 0 2 3", 0, "item 0 1", 0, "item 0 2", 7, "item 0 3", KIND, "item 0 5", 10);
        due.says("(From a SHEET, its place, to a SHEET, its place.)", SHEETS.then("sheet 3 0 6"), "copy 0 3 3 5 1", 1, "lay 0 2 3", 0, "item 0 5", 10, "item 0 3", 0, "lay 0 2 0", 2, "item 0 3", 10);
        due.says(come, SHEETS.then("sheet 3 1 3"), "copy 1 2 3 0 1", 1, "lay 0 2 3", 0, "item 0 0", 3, "item 0 1", 0);
        due.says(come, SHEETS, "copy 0 0 0 0 4", 4, "copy 0 0 0 0 0", 0, "copy 0 4 0 4 0", 0, "copy 2 0 2 0 0", 0, "copy 0 4 2 0 0", 0, "lay 0 2 0", 0, "item 0 0", 7, "item 0 3", 10);
        due.says(come, SHEETS.then("sheet 0 0 24", "mark 0 23 5"), "copy 0 23 0 0 1", 1, "copy 0 0 0 0 24", 24, "lay 0 2 0", 0, "item 0 0", 5);
    }

    private static void findings() {
        String nothing = "NOTHING: a SHEET is MISSING, a SLOT holds nothing";
        due.refuses(nothing, SLOTS, NOTHING, "mark 3 0 0", "print 0 3 5", "copy 3 0 3 0 0", "lay 0 2 3", "ask 0 0", "item 0 0", "rest 0 1");
        due.refuses(nothing, SLOTS.then("sheet 0 -1 0", "lay 1 0 0"), NOTHING, "mark 0 0 0", "print 0 0 5", "copy 0 0 0 0 0", "lay 0 2 0", "ask 1 0", "item 1 0", "rest 1 1");
        due.refuses("INDEX: there is no such place", SLOTS, INDEX, "mark 0 4 0", "mark 2 0 0", "copy 0 4 0 0 1", "item 2 4", "item 4 3");
        String kind = "KIND: it is none (of a KIND, a number, or another thing).";
        due.refuses(kind, SLOTS, KIND, "as 0 1", "mark 1 0 NONE", "copy 0 0 1 0 1", "ask 1 1", "ask 2 0", "item 3 0", "item 2 1", "rest 1 1");
    }

    private static void refusedCopies() {
        String order = "BAD; NOTHING; KIND: they are not of one sort; INDEX.";
        due.refuses(order, SHEETS, BAD, "copy -1 0 0 0 1", "copy 4 0 0 0 1", "copy 0 0 -1 0 1", "copy 0 0 4 0 1", "copy MIN 0 0 0 1", "copy 0 0 MAX 0 1");
        due.refuses(order, SHEETS, BAD, "copy 4 0 3 0 1", "copy 3 0 4 0 1", "copy 4 -1 0 0 -1");
        due.refuses(order, SHEETS, NOTHING, "copy 0 0 3 0 1", "copy 3 0 0 0 1", "copy 3 0 3 0 0", "copy 1 0 3 0 1", "copy 3 -1 0 0 1", "copy 0 9 3 0 -1");
        due.refuses(order, SHEETS, KIND, "copy 0 0 1 0 1", "copy 1 0 0 0 1", "copy 1 0 0 0 0", "copy 0 -1 1 0 1", "copy 0 0 1 3 1", "copy 0 0 1 0 -1", "copy 2 0 1 0 1");
        String index = "INDEX: there is no such place";
        due.refuses(index, SHEETS, INDEX, "copy 0 -1 0 0 1", "copy 0 0 0 -1 1", "copy 0 4 0 0 1", "copy 0 0 0 4 1", "copy 0 0 0 0 5", "copy 0 2 0 0 3", "copy 0 0 0 2 3");
        due.refuses(index, SHEETS, INDEX, "copy 0 0 2 0 1", "copy 2 0 0 0 1", "copy 0 5 0 0 0", "copy 0 0 0 5 0", "copy 0 -1 0 0 0", "copy 0 0 0 -1 0");
        due.refuses(index, SHEETS, INDEX, "copy 0 MAX 0 0 MAX", "copy 0 0 0 MAX MAX", "copy 0 1 0 1 MAX", "copy 0 MIN 0 0 1", "copy 0 MAX 0 0 1", "copy 0 0 0 MIN 1");
        due.refuses(index, SHEETS, INDEX, "copy 0 0 0 0 -1", "copy 0 2 0 2 -1", "copy 0 0 0 0 MIN", "copy 0 4 0 4 -1"); // SIZE is not told with copy
    }

    private static void lays() {
        String holds = "A SLOT holds: thing 0 nothing, 1 FIGURE k, 2 SHEET k, 3 the number k: what it held (0 .. 3).";
        due.says(holds, SLOTS, "lay 0 3 MIN", 0, "lay 0 2 2", 3, "lay 0 1 0", 2, "lay 0 0 MAX", 1, "lay 0 0 MIN", 0, "lay 4 3 MAX", 2, "rest 4 MAX", 0);
        String slots = "SLOTS 0 .. 4 each hold nothing (at first)";
        for (int slot = 0; slot < 5; slot++) due.says(slots, NEW, "ask " + slot + " 0", NOTHING, "item " + slot + " 0", NOTHING, "rest " + slot + " 1", NOTHING, "lay " + slot + " 0 0", 0);
        String order = "BAD: slot, thing, k; NOTHING: that SHEET is MISSING.";
        due.refuses(order, SLOTS, BAD, "lay -1 0 0", "lay 5 0 0", "lay MIN 0 0", "lay MAX 0 0", "lay 0 -1 0", "lay 0 4 0", "lay 0 MIN 0", "lay 0 MAX 0");
        due.refuses(order, SLOTS, BAD, "lay 0 1 -1", "lay 0 1 1", "lay 0 1 MIN", "lay 0 1 MAX", "lay 0 2 -1", "lay 0 2 4", "lay 0 2 MIN", "lay 0 2 MAX");
        due.refuses(order, SLOTS, NOTHING, "lay 0 2 3", "lay 1 2 3", "lay 2 2 3");
        due.refuses(order, SLOTS, BAD, "lay 5 2 3", "lay 0 4 3");
        due.refuses(order, NEW, BAD, "lay 0 1 0");
    }

    private static void heldForGood() {
        String good = "a FIGURE (as it is then, for good), a SHEET (a row of its own, as it was then), or a number.";
        due.says(good, SLOTS, "turns 0 1", 7, "ask 1 7", 22, "ask 1 0", 22, "told 0 6", 1);
        due.says(good, new Run("keep", "table 5", "figure 0 7 5 100 -1", "lay 0 1 0", "back"), "count 1", 0, "ask 0 6", 21);
        due.says(good, SLOTS, "mark 0 0 8", 1, "item 2 0", 7, "sheet 0 -1 0", 0, "item 2 3", 10, "item 2 4", INDEX, "sheet 0 1 1", 1, "item 2 1", KIND);
        due.says(good, SLOTS, "mark 1 0 NONE", KIND, "mark 1 0 9", 1, "item 4 0", 1, "lay 3 2 1", 3, "item 3 0", 9, "item 4 0", 1);
    }

    private static void asks() {
        String price = "PRICE of the FIGURE in a SLOT, taken for one of a KIND (0 .. 7).";
        due.says(price, SLOTS, "ask 1 0", 22, "ask 1 6", 22, "ask 1 7", 22);
        String order = "BAD; NOTHING; KIND: it is no FIGURE, or not of that KIND, nor of one under it.";
        due.refuses(order, SLOTS, BAD, "ask -1 0", "ask 5 0", "ask MIN 0", "ask MAX 0", "ask 1 -1", "ask 1 8", "ask 1 MIN", "ask 1 MAX", "ask 0 8", "ask 2 8", "ask 3 -1");
        due.refuses(order, SLOTS, NOTHING, "ask 0 0", "ask 0 7");
        due.refuses(order, SLOTS, KIND, "ask 1 1", "ask 1 2", "ask 1 3", "ask 1 4", "ask 1 5", "ask 2 0", "ask 3 0", "ask 4 7");
        int[] over = {1, 3, 5, 13, 17, 33, 65, 193};
        int[] prices = {5, 1, 3, 4, 2, 8, 20, 20};
        for (int kind = 0; kind < 8; kind++) {
            Run run = new Run("table 1", "figure 0 " + kind + " 5 99 -1", "lay 0 1 0");
            for (int as = 0; as < 8; as++) due.says(order, run, "ask 0 " + as, (over[kind] >> as & 1) == 1 ? prices[kind] : KIND);
        }
    }

    private static void items() {
        String order = "A place of the SHEET in a SLOT. BAD: slot; NOTHING; KIND: it is no SHEET; INDEX; KIND: NO NUMBER.";
        due.says(order, SLOTS, "item 2 0", 7, "item 2 1", KIND, "item 2 2", 9, "item 2 3", 10, "item 4 2", 3);
        due.refuses(order, SLOTS, BAD, "item -1 0", "item 5 0", "item MIN 0", "item MAX 0", "item 5 -1");
        due.refuses(order, SLOTS, NOTHING, "item 0 0", "item 0 -1", "item 0 24");
        due.refuses(order, SLOTS, KIND, "item 1 0", "item 1 -1", "item 3 0", "item 3 24", "item 2 1");
        due.refuses(order, SLOTS, INDEX, "item 2 -1", "item 2 4", "item 2 MIN", "item 2 MAX", "item 4 3", "item 4 24");
        due.refuses(order, SLOTS.then("lay 2 2 2"), INDEX, "item 2 0", "item 2 -1");
    }

    private static void rests() {
        String order = "The rest of the number in a SLOT by n. BAD: slot; NOTHING; KIND: it is no number; NO: n is 0.";
        due.says(order, SLOTS, "rest 3 5", -2, "rest 3 -5", -2, "rest 3 17", 0, "rest 3 18", -17, "rest 3 1", 0, "rest 3 -1", 0, "rest 3 MIN", -17);
        due.says(order, SLOTS.then("lay 0 3 MIN"), "rest 0 -1", 0, "rest 0 1", 0, "rest 0 MIN", 0, "rest 0 MAX", -1, "rest 0 10", -8, "rest 0 0", NO);
        due.says(order, SLOTS.then("lay 0 3 0"), "rest 0 5", 0, "rest 0 0", NO);
        due.refuses(order, SLOTS, BAD, "rest -1 5", "rest 5 5", "rest MIN 5", "rest MAX 5", "rest 5 0");
        due.refuses(order, SLOTS, NOTHING, "rest 0 5", "rest 0 0");
        due.refuses(order, SLOTS, KIND, "rest 1 5", "rest 2 5", "rest 4 5", "rest 1 0", "rest 2 0");
        due.refuses(order, SLOTS, NO, "rest 3 0");
    }
}
