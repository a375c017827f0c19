/** The edges that part 1 of the terms and promises 1 to 7 name, sentence by sentence. */
public final class TablesEdgesTest {
    private static final Due due = new Due();
    private static final int BAD = Due.BAD, NO = Due.NO, FULL = Due.FULL, NONE = Due.NONE, KIND = Due.KIND;
    private static final Run NEW = new Run();
    private static final Run ONE = new Run("table 7");
    /** TABLES of the years 3, 3, 10; FIGURES 0 to 3 in TABLES 0, 1, 1, 2, of KINDS 1, 3, 7, 6. */
    private static final Run SOME = new Run("table 3", "table 3", "table 10", "figure 0 1 7000 20 -1", "figure 1 3 7001 20 0",
        "figure 1 7 7002 20 1", "figure 2 6 7003 20 -1");
    private static final Run FULL_OF_TABLES = new Run().times(12, "table 30");
    private static final Run FULL_OF_FIGURES = ONE.then("table 9").times(40, "figure 0 1 5 5 -1");

    public static void main(String[] args) {
        newObject();
        tables();
        figures();
        froms();
        told();
        measured();
        worked();
        carriedSlippedFitted();
        prices();
        kinds();
        base();
        due.end();
    }

    private static void newObject() {
        String as = "As told; no TABLES.";
        due.says(as, NEW, "count 0", 0, "count 1", 0, "count 4", 0, "count 5", 0, "count 6", 0, "count 7", 0, "count 8", 0, "count 9", 0, "count 10", 0);
        due.says(as, NEW, "base 5", 7700, "seed 5", 1, "back", NO, "pillar", NONE, "next 1", NONE, "why 0 0", NONE, "why 1 0", NONE, "why 2 0", NONE);
        due.refuses(as, NEW, BAD, "figure 0 0 0 1 -1", "told 0 0", "as 0 0", "turns 0 0", "line 0 0", "choose 0", "of 0 0", "heard 0 0 0", "leaner 1 0 0");
    }

    private static void tables() {
        due.says("TABLES, 12 at most, numbered from 0", NEW.times(10, "table 7"), "table 7", 10, "table 7", 11, "count 0", 12);
        due.says("One more TABLE: its number.", NEW, "table 7", 0, "table 7", 1, "count 0", 2);
        due.refuses("TABLES, 12 at most", NEW.times(12, "table 7"), FULL, "table 7", "table 59");
        due.says("each of a YEAR 0 .. 59", NEW, "table 0", 0, "table 59", 1, "figure 0 0 0 1 -1", 0, "figure 1 0 0 1 -1", 1, "told 0 10", 0, "told 1 10", 59);
        due.refuses("each of a YEAR 0 .. 59", NEW, BAD, "table -1", "table 60", "table MIN", "table MAX");
        due.says("not ahead of that of the one ahead", new Run("table 30"), "table 30", 1, "table 31", 2, "table 31", 3);
        due.refuses("not ahead of that of the one ahead", new Run("table 30"), NO, "table 29", "table 0");
        due.refuses("not ahead of that of the one ahead", new Run("table 30", "table 31"), NO, "table 30", "table 0");
        String order = "BAD: year; NO: it is ahead of the latest one's; FULL.";
        due.refuses(order, new Run("table 30"), BAD, "table -1");
        due.refuses(order, FULL_OF_TABLES, BAD, "table -1", "table 60");
        due.refuses(order, FULL_OF_TABLES, NO, "table 29", "table 0");
        due.refuses(order, FULL_OF_TABLES, FULL, "table 30", "table 59");
    }

    private static void figures() {
        due.says("FIGURES, 40 at most, numbered from 0", ONE.times(38, "figure 0 1 5 5 -1"), "figure 0 1 5 5 -1", 38, "figure 0 1 5 5 -1", 39, "count 1", 40);
        due.says("One more FIGURE: its number.", ONE, "figure 0 1 5 5 -1", 0, "figure 0 1 5 5 -1", 1, "count 1", 2);
        due.refuses("FIGURES, 40 at most", FULL_OF_FIGURES, FULL, "figure 0 1 5 5 -1", "figure 1 0 0 1 39");
        due.says("with a VALUE 0 .. 9999", ONE, "figure 0 0 0 5 -1", 0, "figure 0 0 9999 5 -1", 1, "told 0 2", 0, "told 1 2", 9999);
        due.refuses("with a VALUE 0 .. 9999", ONE, BAD, "figure 0 0 -1 5 -1", "figure 0 0 10000 5 -1", "figure 0 0 MIN 5 -1", "figure 0 0 MAX 5 -1");
        due.says("PAIRS 1 .. 999", ONE, "figure 0 0 5 1 -1", 0, "figure 0 0 5 999 -1", 1, "told 0 3", 1, "told 1 3", 999);
        due.refuses("PAIRS 1 .. 999", ONE, BAD, "figure 0 0 5 0 -1", "figure 0 0 5 1000 -1", "figure 0 0 5 MIN -1", "figure 0 0 5 MAX -1");
        for (int kind = 0; kind < 8; kind++) due.says("a KIND: 0 FIGURE;", ONE, "figure 0 " + kind + " 5 5 -1", 0, "told 0 1", kind);
        due.refuses("a KIND: 0 FIGURE;", ONE, BAD, "figure 0 -1 5 5 -1", "figure 0 8 5 5 -1", "figure 0 MIN 5 5 -1", "figure 0 MAX 5 5 -1");
        String order = "BAD: table, kind, value, pairs, from (not there, of a later TABLE); FULL.";
        due.refuses(order, NEW, BAD, "figure 0 0 5 5 -1");
        due.refuses(order, SOME, BAD, "figure 3 0 5 5 -1", "figure -1 0 5 5 -1", "figure MIN 0 5 5 -1", "figure MAX 0 5 5 -1");
        due.refuses(order, FULL_OF_FIGURES, BAD, "figure 2 0 5 5 -1", "figure 0 8 5 5 -1", "figure 0 0 10000 5 -1", "figure 0 0 5 0 -1", "figure 0 0 5 5 40");
    }

    private static void froms() {
        String from = "FROM an earlier FIGURE of the same or an earlier TABLE (a lesser number)";
        due.says(from, SOME, "figure 1 0 5 5 2", 4, "told 4 4", 2);
        due.says(from, SOME, "figure 1 0 5 5 0", 4, "told 4 4", 0);
        due.says(from, SOME, "figure 2 0 5 5 3", 4, "figure 2 0 5 5 4", 5, "told 5 4", 4);
        due.refuses(from, SOME, BAD, "figure 0 0 5 5 1", "figure 1 0 5 5 3"); // TABLE 1 is later than 0, though of its YEAR
        due.refuses(from, SOME, BAD, "figure 2 0 5 5 4", "figure 2 0 5 5 5", "figure 2 0 5 5 MAX");
        due.says("or from none (-1)", SOME, "figure 0 0 5 5 -1", 4, "told 4 4", NONE);
        due.refuses("or from none (-1)", SOME, BAD, "figure 2 0 5 5 -2", "figure 2 0 5 5 MIN", "figure 2 0 5 5 NONE");
    }

    private static void told() {
        String whats = "Of a FIGURE: what 0 TABLE, 1 KIND, 2 VALUE, 3 PAIRS, 4 FROM (NONE), 5 whether it FITS (1, 0), 6 PRICE, 7 SPREAD,"
            + " 8 what the working of its TABLE gives for it (NONE), 9 its LINE (NONE), 10 YEAR. BAD.";
        due.says(whats, SOME, "told 0 0", 0, "told 0 1", 1, "told 0 2", 7000, "told 0 3", 20, "told 0 4", NONE, "told 0 5", 0, "told 0 6", 1,
            "told 0 7", 500, "told 0 8", NONE, "told 0 9", NONE, "told 0 10", 3);
        due.says(whats, SOME.then("text working 2 n+1", "line 0 1", "line 0 3"), "told 3 4", NONE, "told 3 5", 1, "told 3 8", 21, "told 3 9", 0, "told 1 4", 0, "told 1 8", NONE);
        due.refuses(whats, SOME, BAD, "told 0 -1", "told 3 11", "told 0 MIN", "told 0 MAX", "told -1 0", "told 4 0", "told MIN 10", "told MAX 10");
    }

    private static void measured() {
        String fits = "MEASURED: its VALUE is not further than SPREAD from BASE (0 .. 9999; 7700 at first).";
        Run run = ONE.then("figure 0 1 7800 100 -1", "figure 0 1 7801 100 -1", "figure 0 1 7600 100 -1", "figure 0 1 7599 100 -1");
        due.says(fits, run, "told 0 5", 1, "told 1 5", 0, "told 2 5", 1, "told 3 5", 0, "count 2", 2);
        due.says(fits, run.then("base 7699"), "told 0 5", 0, "told 1 5", 0, "told 2 5", 1, "told 3 5", 1);
        due.says(fits, ONE.then("text spread 0", "figure 0 1 7700 5 -1", "figure 0 1 7701 5 -1"), "told 0 5", 1, "told 1 5", 0);
        due.says(fits, ONE.then("text spread 9999", "base 0", "figure 0 1 9999 5 -1"), "told 0 5", 1, "base 9999", 0, "told 0 5", 1);
        due.says("FIGURE: yes.", ONE.then("figure 0 0 0 999 -1"), "told 0 5", 1);
        due.says("MADE: as FIGURE.", ONE.then("figure 0 6 0 999 -1"), "told 0 5", 1);
    }

    private static void worked() {
        String worked = "WORKED: its TABLE has a working that gives its VALUE.";
        Run run = ONE.then("table 8", "figure 0 2 5000 9 -1", "figure 0 2 5001 9 -1", "figure 0 2 4999 9 -1", "figure 1 2 5000 9 -1");
        due.says(worked, run, "told 0 5", 0, "count 2", 0);
        due.says(worked, run.then("text working 0 5000"), "told 0 5", 1, "told 1 5", 0, "told 2 5", 0, "told 3 5", 0, "count 2", 1);
        due.says(worked, ONE.then("figure 0 2 0 9 -1"), "told 0 5", 0); // no working is not one that gives 0
        String rounded = "ROUNDED: its TABLE has a working that gives a number not further than 50 from it.";
        Run near = ONE.then("table 8", "figure 0 3 5050 9 -1", "figure 0 3 5051 9 -1", "figure 0 3 4950 9 -1", "figure 0 3 4949 9 -1", "figure 1 3 5000 9 -1");
        due.says(rounded, near, "told 0 5", 0, "count 2", 0);
        due.says(rounded, near.then("text working 0 5000"), "told 0 5", 1, "told 1 5", 0, "told 2 5", 1, "told 3 5", 0, "told 4 5", 0);
        Run edge = ONE.then("figure 0 3 0 9 -1", "figure 0 3 9999 9 -1");
        due.says(rounded, edge.then("text working 0 0-50"), "told 0 5", 1, "told 1 5", 0);
        due.says(rounded, edge.then("text working 0 0-51"), "told 0 5", 0);
        due.says(rounded, edge.then("text working 0 9999+50"), "told 0 5", 0, "told 1 5", 1);
        due.says(rounded, edge.then("text working 0 9999+51"), "told 1 5", 0);
        due.says(rounded, edge.then("text working 0 0-8192*8192*32"), "told 0 8", Integer.MIN_VALUE, "told 0 5", 0, "told 1 5", 0);
        due.says(rounded, edge.then("text working 0 0-8192*8192*32-1"), "told 0 8", Integer.MAX_VALUE, "told 0 5", 0, "told 1 5", 0);
        due.says(rounded, ONE.then("figure 0 3 0 9 -1"), "told 0 5", 0);
    }

    private static void carriedSlippedFitted() {
        String carried = "CARRIED: it is FROM one of the same VALUE.";
        due.says(carried, ONE.then("figure 0 4 0 9 -1", "figure 0 4 0 9 0", "figure 0 4 1 9 0", "figure 0 4 1 9 2"), "told 0 5", 0, "told 1 5", 1, "told 2 5", 0, "told 3 5", 1);
        String slipped = "SLIPPED: it is FROM one of which just one of the four digits is another one (0s ahead counting).";
        Run run = ONE.then("figure 0 5 7 9 -1", "figure 0 5 7 9 0", "figure 0 5 8 9 0", "figure 0 5 17 9 0", "figure 0 5 107 9 0", "figure 0 5 9007 9 0",
            "figure 0 5 18 9 0", "figure 0 5 9997 9 0", "figure 0 5 10 9 0");
        due.says(slipped, run, "told 0 5", 0, "told 1 5", 0, "told 2 5", 1, "told 3 5", 1, "told 4 5", 1, "told 5 5", 1, "told 6 5", 0, "told 7 5", 0, "told 8 5", 0);
        due.says(slipped, ONE.then("figure 0 5 0 9 -1", "figure 0 5 9000 9 0", "figure 0 5 9999 9 0", "figure 0 5 0 9 1"), "told 0 5", 0, "told 1 5", 1, "told 2 5", 0, "told 3 5", 1);
        String fitted = "FITTED: as MADE, and it is FROM one whose VALUE and its own are together even.";
        due.says(fitted, ONE.then("figure 0 7 0 9 -1", "figure 0 7 0 9 0", "figure 0 7 1 9 0", "figure 0 7 9999 9 2", "figure 0 7 9998 9 2"),
            "told 0 5", 0, "told 1 5", 1, "told 2 5", 0, "told 3 5", 1, "told 4 5", 0);
    }

    private static void prices() {
        String price = "PRICE: FIGURE: 5. MEASURED: 1. WORKED: as FIGURE, less 2. ROUNDED: as WORKED, and 1. CARRIED: 2."
            + " SLIPPED: as FIGURE, and 3. MADE: 4 times as FIGURE. FITTED: as MADE, and PAIRS by 100 (cut).";
        int[] want = {5, 1, 3, 4, 2, 8, 20, 20};
        for (int kind = 0; kind < 8; kind++) {
            int most = kind == 7 ? 29 : want[kind];
            due.says(price, ONE.then("figure 0 " + kind + " 5 1 -1", "figure 0 " + kind + " 5 999 -1"), "told 0 6", want[kind], "told 1 6", most);
        }
        due.says(price, ONE.then("figure 0 7 5 99 -1", "figure 0 7 5 100 -1", "figure 0 7 5 199 -1", "figure 0 7 5 900 -1"), "told 0 6", 20, "told 1 6", 21, "told 2 6", 21, "told 3 6", 29);
        String unkind = "UNKIND are MADE ones (FITTED, too).";
        for (int kind = 0; kind < 8; kind++) due.says(unkind, ONE.then("figure 0 " + kind + " 5 5 -1"), "count 3", kind == 6 || kind == 7 ? 1 : 0);
        due.says(unkind, ONE, "count 3", 0);
    }

    private static void kinds() {
        String under = "1 MEASURED, 2 WORKED, 4 CARRIED, 5 SLIPPED, 6 MADE, under FIGURE; 3 ROUNDED, under WORKED; 7 FITTED, under MADE (all are FIGURES).";
        int[] over = {1, 3, 5, 13, 17, 33, 65, 193};
        for (int kind = 0; kind < 8; kind++) {
            for (int other = 0; other < 8; other++) due.says(under, ONE.then("figure 0 " + kind + " 9 9 -1"), "as 0 " + other, (over[kind] >> other & 1) == 1 ? 9 : KIND);
        }
        String as = "A FIGURE as one of a KIND: its VALUE. BAD: figure, kind; KIND: it is not of that KIND, nor of one under it.";
        due.says(as, SOME, "as 1 0", 7001, "as 1 2", 7001, "as 1 3", 7001, "as 2 0", 7002, "as 2 6", 7002, "as 2 7", 7002, "as 3 6", 7003);
        due.refuses(as, SOME, KIND, "as 0 2", "as 0 7", "as 1 1", "as 1 4", "as 2 5", "as 2 1", "as 3 7", "as 3 1");
        due.refuses(as, SOME, BAD, "as -1 0", "as 4 0", "as MIN 0", "as MAX 0", "as 0 -1", "as 0 8", "as 0 MIN", "as 0 MAX", "as 4 8");
        String turns = "A FIGURE is of another KIND from now on: what it was. BAD.";
        due.says(turns, SOME, "turns 1 7", 3, "told 1 1", 7, "turns 1 0", 7, "turns 1 0", 0, "told 1 1", 0);
        due.refuses(turns, SOME, BAD, "turns 0 -1", "turns 0 8", "turns 0 MIN", "turns 0 MAX", "turns -1 0", "turns 4 0", "turns MIN 0", "turns MAX 0");
    }

    private static void base() {
        String base = "BASE becomes v: what it was. BAD.";
        due.says(base, NEW, "base 0", 7700, "base 9999", 0, "base 1", 9999, "base 1", 1);
        due.refuses(base, ONE.then("base 3", "keep", "base 5"), BAD, "base -1", "base 10000", "base MIN", "base MAX");
    }
}
