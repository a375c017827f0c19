/** The edges that part 3 of the terms and promises 13 to 21 name, sentence by sentence. */
public final class AlikeEdgesTest {
    private static final Due due = new Due();
    private static final int BAD = Due.BAD, NO = Due.NO, FULL = Due.FULL, NONE = Due.NONE;
    private static final int MOST_ODDS = 1000000000;
    private static final Run NEW = new Run();
    /** TABLES 0, 1, 2 of the YEARS 5, 5, 9; FIGURES 0 to 4 in TABLES 0, 1, 1, 2, 2; FIGURES 0 and 1 in LINE 0. */
    private static final Run SOME = new Run("table 5", "table 5", "table 9", "figure 0 1 7000 20 -1", "figure 1 1 7001 20 -1", "figure 1 1 7002 20 -1",
        "figure 2 1 7003 20 -1", "figure 2 1 7004 20 -1", "line 0 0", "line 0 1");
    private static final Run TOLD_SIX = NEW.then("table 1").times(8, "figure 0 1 7700 20 -1").then("choose 0", "choose 1", "choose 2", "choose 3", "choose 4", "choose 5");

    public static void main(String[] args) {
        alike();
        lines();
        runs();
        odds();
        soon();
        digits();
        choosing();
        stories();
        ties();
        due.end();
    }

    /** TABLES of the YEARS 1, 2, 3 and so on, a FIGURE of each in LINE 3. */
    private static Run row(int pairs, int... values) {
        Run run = NEW;
        for (int k = 0; k < values.length; k++) run = run.then("table " + (k + 1), "figure " + k + " 1 " + values[k] + " " + pairs + " -1", "line 3 " + k);
        return run;
    }

    private static void alike() {
        String alike = "ALIKE to p places (1 .. 4) are VALUES that are the same by 10 to the power of 4 less p (cut).";
        due.says(alike, row(20, 7999, 7000), "run 3 1 0", 2, "run 3 2 0", 1, "run 3 3 0", 1, "run 3 4 0", 1);
        due.says(alike, row(20, 7099, 7000), "run 3 1 0", 2, "run 3 2 0", 2, "run 3 3 0", 1, "run 3 4 0", 1);
        due.says(alike, row(20, 7009, 7000), "run 3 2 0", 2, "run 3 3 0", 2, "run 3 4 0", 1);
        due.says(alike, row(20, 7000, 7000), "run 3 3 0", 2, "run 3 4 0", 2);
        due.says(alike, row(20, 6999, 7000), "run 3 1 0", 1, "run 3 4 0", 1);
        due.says(alike, row(20, 0, 999), "run 3 1 0", 2, "run 3 2 0", 1);
        due.says(alike, row(20, 0, 9), "run 3 3 0", 2, "run 3 4 0", 1);
        due.says(alike, row(20, 9999, 9990), "run 3 3 0", 2, "run 3 4 0", 1);
        due.refuses(alike, row(20, 7000, 7000), BAD, "run 3 0 0", "run 3 5 0", "run 3 MIN 0", "run 3 MAX 0", "soon 2 0", "soon 2 5", "soon 2 MIN", "soon 2 MAX");
    }

    private static void lines() {
        due.says("LINES 0 .. 5 are rows of FIGURES", SOME, "line 5 3", 1, "told 3 9", 5, "told 0 9", 0, "told 4 9", NONE, "line 0 4", 3);
        due.refuses("LINES 0 .. 5 are rows of FIGURES", SOME, BAD, "line -1 3", "line 6 3", "line MIN 3", "line MAX 3");
        String order = "LINES 0 .. 5 are rows of FIGURES (by the order told, 12 at most each";
        due.says(order, SOME.then("line 3 2", "line 3 3"), "run 3 1 1", 2, "run 3 2 0", 2);
        due.says(order, new Run("table 1", "table 2", "figure 1 1 7 9 -1", "figure 0 1 7 9 -1"), "line 3 1", 1, "line 3 0", 2, "run 3 4 1", 1);
        due.refuses("one in one LINE at most", SOME, NO, "line 0 1", "line 1 1", "line 5 0");
        due.refuses("each of a later TABLE than the one ahead", SOME, NO, "line 0 2");
        due.refuses("each of a later TABLE than the one ahead", SOME.then("line 1 3"), NO, "line 1 2", "line 1 4");
        due.says("each of a later TABLE than the one ahead", SOME, "told 0 10", 5, "told 1 10", 5, "run 0 1 0", 2); // of one YEAR, yet later
        String most = "12 at most each";
        Run twelve = row(20, 1, 2, 3, 4, 5, 6, 7, 8, 9, 10, 11, 12).then("figure 11 1 5 5 -1");
        due.says(most, twelve, "run 3 1 0", 12, "told 11 9", 3);
        due.refuses(most, twelve, NO, "line 3 12"); // no TABLE is later than the twelfth: NO stands ahead of FULL
        String comes = "A FIGURE comes to the end of a LINE: how many it has. BAD: line, figure; NO: it is in a LINE, or not of a later TABLE; FULL.";
        due.says(comes, SOME, "line 0 3", 3, "line 1 2", 1, "line 1 4", 2);
        due.refuses(comes, SOME, BAD, "line 0 -1", "line 0 5", "line 0 MIN", "line 0 MAX", "line 6 0", "line 6 5");
        due.refuses(comes, NEW, BAD, "line 0 0");
    }

    private static void runs() {
        String longest = "the longest row of FIGURES one behind the other that are all ALIKE; of several the first.";
        due.says(longest, row(20, 10, 20, 21, 30, 31, 32, 40, 41, 42), "run 3 3 0", 3, "run 3 3 1", 3);
        due.says(longest, row(20, 10, 11, 20, 10, 11), "run 3 3 0", 2, "run 3 3 1", 0);
        due.says(longest, row(20, 10, 20, 30), "run 3 3 0", 1, "run 3 3 1", 0);
        due.says(longest, row(20, 10, 20, 21), "run 3 3 0", 2, "run 3 3 1", 1);
        due.says(longest, row(20, 10, 20, 11), "run 3 3 0", 1, "run 3 3 1", 0);
        due.says(longest, row(20, 5, 5, 5).then("figure 0 1 5 5 -1", "line 0 3"), "run 3 4 0", 3, "run 0 4 0", 1, "run 1 4 0", 0); // a longer LINE looked at ahead
        String whats = "what 0 how many, 1 its first FIGURE (NONE: the LINE is empty), 2 ODDS (1 of a RUN of 1 or 0). BAD.";
        due.says(whats, NEW, "run 0 1 0", 0, "run 0 1 1", NONE, "run 0 1 2", 1, "run 5 4 0", 0, "run 5 4 1", NONE, "run 5 4 2", 1);
        due.says(whats, row(20, 7000), "run 3 4 0", 1, "run 3 4 1", 0, "run 3 4 2", 1);
        due.says(whats, row(20, 7000, 8000, 9000), "run 3 1 0", 1, "run 3 1 1", 0, "run 3 1 2", 1);
        due.refuses(whats, SOME, BAD, "run -1 1 0", "run 6 1 0", "run MIN 1 0", "run MAX 1 0", "run 0 1 -1", "run 0 1 3", "run 0 1 MIN", "run 0 1 MAX");
        due.refuses(whats, NEW, BAD, "run 6 1 0", "run 0 0 0", "run 0 5 0", "run 0 1 3");
    }

    private static void odds() {
        String odds = "ODDS of a RUN of k: one in as many as (2 times SPREAD and 1) of each FIGURE of it but the first, one by the other, 1000000000 at most.";
        due.says(odds, row(100, 5, 5), "run 3 4 2", 201);
        due.says(odds, row(100, 5, 5, 5), "run 3 4 2", 201 * 201);
        due.says(odds, row(1, 5, 5), "run 3 4 2", 20001);
        due.says(odds, row(1, 5, 5, 5), "run 3 4 2", 20001 * 20001);
        due.says(odds, row(1, 5, 5, 5, 5), "run 3 4 2", MOST_ODDS);
        due.says(odds, row(1, 5, 5, 5, 5, 5, 5, 5, 5, 5, 5, 5, 5), "run 3 4 2", MOST_ODDS);
        due.says(odds, row(9, 5, 5, 5, 5).then("text spread 499+(y=4)"), "run 3 4 2", 999 * 999 * 1001);
        due.says(odds, row(9, 5, 5, 5, 5).then("text spread 500"), "run 3 4 2", MOST_ODDS);
        due.says(odds, row(9, 5, 5, 5, 5).then("text spread 0"), "run 3 4 2", 1);
        due.says(odds, row(9, 5, 5, 5, 5).then("text spread y*100"), "run 3 4 2", 401 * 601 * 801);
    }

    private static void soon() {
        String soon = "SOON: the least YEAR in which some LINE has a RUN of k or more to p places, of FIGURES of that YEAR and ahead.";
        due.says(soon, row(20, 10, 20, 21, 30, 31, 32), "soon 2 3", 3, "soon 3 3", 6, "soon 4 3", NONE, "soon 6 2", 6, "soon 2 4", NONE);
        due.says(soon, new Run("table 0", "table 0", "figure 0 1 5 5 -1", "figure 1 1 5 5 -1", "line 5 0", "line 5 1"), "soon 2 4", 0);
        due.says(soon, new Run("table 59", "table 59", "figure 0 1 5 5 -1", "figure 1 1 5 5 -1", "line 0 0", "line 0 1"), "soon 2 4", 59);
        due.says(soon, row(20, 10, 10, 10).then("figure 0 1 9 9 -1", "figure 2 1 9 9 -1", "line 0 3", "line 0 4"), "soon 2 4", 2);
        due.says(soon, row(20, 10, 20, 20).then("figure 0 1 9 9 -1", "figure 1 1 9 9 -1", "line 5 3", "line 5 4"), "soon 2 4", 2);
        due.says(soon, row(20, 10, 10, 10).then("figure 0 1 9 9 -1", "figure 2 1 9 9 -1", "line 5 3", "line 5 4"), "soon 2 4", 2);
        String of = "SOON for RUNS of k (2 .. 12) to p places. BAD; NONE.";
        Run twelve = row(20, 5, 5, 5, 5, 5, 5, 5, 5, 5, 5, 5, 5);
        due.says(of, twelve, "soon 2 4", 2, "soon 11 4", 11, "soon 12 4", 12);
        due.refuses(of, twelve, BAD, "soon 1 1", "soon 13 1", "soon 0 1", "soon MIN 1", "soon MAX 1");
        due.says(of, NEW, "soon 2 1", NONE, "soon 12 4", NONE);
        due.refuses(of, NEW, BAD, "soon 1 1", "soon 13 4", "soon 2 0", "soon 2 5");
    }

    private static void digits() {
        String even = "EVENNESS: the sum over digits of (10 times how many have it, less how many FIGURES there are), squared.";
        due.says(even, NEW, "even", 0);
        due.says(even, NEW.then("table 1", "figure 0 1 9999 5 -1"), "even", 81 + 9);
        due.says(even, NEW.then("table 1").times(40, "figure 0 1 0 5 -1"), "even", 360 * 360 + 9 * 40 * 40);
        Run ten = NEW.then("table 1");
        for (int digit = 0; digit < 10; digit++) ten = ten.then("figure 0 1 " + (990 + digit) + " 5 -1");
        due.says(even, ten, "even", 0);
        String last = "How many FIGURES have a last digit. BAD: digit.";
        due.says(last, ten, "digit 0", 1, "digit 9", 1, "figure 0 1 9 5 -1", 10, "figure 0 1 0 5 -1", 11, "digit 9", 2, "digit 0", 2, "digit 5", 1);
        due.says(last, NEW, "digit 0", 0, "digit 9", 0);
        due.refuses(last, ten, BAD, "digit -1", "digit 10", "digit MIN", "digit MAX");
        due.says("ODD digits, as bits 0 .. 9.", ten, "odd", 0, "text odd 1", 0, "odd", 1023, "text odd d=0", 1, "odd", 1, "text odd d=9", 2, "odd", 512);
        due.says("ODD digits, as bits 0 .. 9.", NEW, "odd", 0, "text odd 1", 0, "odd", 1023);
    }

    private static void choosing() {
        String choose = "A FIGURE is told for STORIES: how many are. BAD; NO: it is; FULL: 6 are.";
        due.says(choose, NEW.then("table 1").times(8, "figure 0 1 7700 20 -1"), "choose 7", 1, "choose 0", 2, "choose 6", 3, "choose 1", 4, "choose 5", 5, "choose 2", 6, "count 5", 6);
        due.refuses(choose, TOLD_SIX, FULL, "choose 6", "choose 7");
        due.refuses(choose, TOLD_SIX, NO, "choose 0", "choose 5");
        due.refuses(choose, TOLD_SIX, BAD, "choose -1", "choose 8", "choose MIN", "choose MAX");
        due.refuses(choose, NEW, BAD, "choose 0");
        String clear = "No FIGURE is told any more: how many were.";
        due.says(clear, TOLD_SIX, "clear", 6, "count 5", 0, "clear", 0, "choose 5", 1, "choose 0", 2);
        due.says(clear, NEW, "clear", 0);
    }

    private static void stories() {
        String with = "THE STORY with u (0 .. 6) UNKIND ones at most";
        due.says(with, TOLD_SIX, "story 0 0", 6, "story 6 0", 6);
        due.refuses(with, TOLD_SIX, BAD, "story -1 0", "story 7 0", "story MIN 0", "story MAX 0");
        String whats = "what 0 PRICES, 1 how many are UNKIND, 2 + i: the KIND of the i-th told. BAD: u, what (2 + i of told ones alone); NONE: there is no STORY.";
        due.says(whats, TOLD_SIX, "story 0 1", 0, "story 0 2", 1, "story 0 7", 1);
        due.refuses(whats, TOLD_SIX, BAD, "story 0 8", "story 0 -1", "story 0 MIN", "story 0 MAX");
        due.says(whats, NEW, "story 0 0", 0, "story 0 1", 0, "story 6 0", 0);
        due.refuses(whats, NEW, BAD, "story 0 2", "story 6 2", "story 0 -1", "story 7 0");
        Run two = new Run("table 1", "figure 0 1 1000 5 -1", "figure 0 1 1000 999 -1", "text spread 5", "choose 0", "choose 1");
        due.says(whats, two, "story 0 0", NONE, "story 0 1", NONE, "story 0 2", NONE, "story 1 0", NONE, "story 1 3", NONE, "story 2 0", 40, "story 2 1", 2, "story 2 3", 6, "story 6 0", 40);
        due.refuses(whats, two, BAD, "story 0 4", "story 1 4", "story -1 0", "story 0 -1");
        Run six = NEW.then("table 1", "text spread 5").times(6, "figure 0 1 1000 5 -1").then("choose 0", "choose 1", "choose 2", "choose 3", "choose 4", "choose 5");
        due.says("STORIES for up to 6 told FIGURES", six, "story 5 0", NONE, "story 6 0", 120, "story 6 1", 6, "story 6 7", 6);
    }

    private static void ties() {
        String fit = "a KIND 1 .. 7 for each for which it would FIT as it stands (its FROM as told).";
        due.says(fit, new Run("table 1", "figure 0 7 1000 5 -1", "figure 0 6 1000 5 0", "text spread 5", "choose 1"), "story 0 2", 4, "story 0 0", 2, "told 1 1", 6);
        due.says(fit, new Run("table 1", "figure 0 0 1000 5 -1", "text spread 5", "choose 0"), "story 0 0", NONE, "story 1 2", 6); // KIND 0 is none of them, cheap as it is
        due.says(fit, new Run("table 1", "figure 0 0 1000 5 -1", "figure 0 0 1005 5 0", "text spread 5", "choose 1"), "story 0 2", 5, "story 0 0", 8);
        due.says(fit, new Run("table 1", "figure 0 0 1000 5 -1", "text spread 5", "text working 0 1000", "choose 0"), "story 0 2", 2, "story 0 0", 3);
        due.says(fit, new Run("table 1", "figure 0 0 1000 5 -1", "text spread 5", "text working 0 1050", "choose 0"), "story 0 2", 3, "story 0 0", 4);
        String least = "that with the least PRICES together; of several that with the fewest UNKIND ones, then the first (by the order told, the lesser KIND first).";
        due.says(least, new Run("table 1", "figure 0 0 7700 5 -1", "text working 0 7700", "figure 0 0 7700 5 0", "choose 1", "choose 0"),
            "story 0 0", 2, "story 0 2", 1, "story 0 3", 1, "base 0", 7700, "text spread 0", 1, "story 0 0", 5, "story 0 2", 4, "story 0 3", 2);
        Run fitted = new Run("table 1", "text spread 5", "figure 0 0 1000 5 -1", "figure 0 7 3332 99 0", "figure 0 7 3332 100 0");
        due.says(least, fitted.then("choose 1", "choose 2"), "story 2 0", 40, "story 2 1", 2, "story 2 2", 6, "story 2 3", 6);
        due.says(least, new Run("table 1", "figure 0 7 7700 5 -1", "figure 0 7 7700 5 0", "text working 0 7700", "choose 1"), "story 6 0", 1, "story 6 1", 0, "story 6 2", 1);
    }
}
