/** The edges that part 5 of the terms names of LANDS, and those of promises 33, 34, 43 and 44, sentence by sentence. */
public final class LandsEdgesTest {
    private static final Due due = new Due();
    private static final int BAD = Due.BAD, NO = Due.NO, FULL = Due.FULL;
    private static final String[] BUT_WHAT_WAITS = {Probes.WAITING};
    private static final Run NEW = new Run();
    /** VALUES of no SPREAD at all are all BASE, so that every LAND has every RUN it has TABLES for. */
    private static final Run NARROW = new Run("text spread 0", "seed 5");

    public static void main(String[] args) {
        seeds();
        draws();
        lands();
        shares();
        waiting();
        checks();
        refusedChecks();
        due.end();
    }

    private static Run telling(Run run, int... values) {
        Run longer = run;
        for (int value : values) longer = longer.then("tell " + value);
        return longer;
    }

    private static void seeds() {
        due.says("z is told (1 at first).", NEW, "count 11", 1, "seed 7", 1, "count 11", 7);
        due.says("z becomes v: what it was.", NEW, "seed MIN", 1, "seed MAX", Integer.MIN_VALUE, "seed 0", Integer.MAX_VALUE, "seed -1", 0, "count 11", -1);
    }

    private static void draws() {
        String draw = "A draw: z becomes z * 1103515245 + 12345 (an int); it gives z >>> 8.";
        int[] seeds = {0, 1, -1, Integer.MAX_VALUE, Integer.MIN_VALUE, 77, -1234567};
        for (int seed : seeds) {
            due.says(draw, new Run("seed " + seed, "share 102 20 2 1"), "count 11", Lands.seedBehind(seed, 2));
            due.says(draw, new Run("seed " + seed, "share 20012 20 2 1"), "count 11", Lands.seedBehind(seed, 2400));
            int[] values = Lands.values(seed, 12, 7700, 500);
            due.says(draw, telling(new Run("seed " + seed, "keep"), values), "check 12 20", 0);
        }
    }

    private static void lands() {
        String land = "each VALUE is BASE less s, plus the rest of the draw by (2 times s and 1), held within 0 .. 9999 (s: SPREAD for n, YEAR 0).";
        int[] bases = {0, 1, 9, 11, 7700, 9988, 9990, 9998, 9999};
        int[][] pairs = {{999, 10}, {1, 10000}, {2, 5000}};
        for (int base : bases) {
            for (int[] n : pairs) due.says(land, telling(new Run("base " + base, "keep"), Lands.values(1, 12, base, n[1])), "check 12 " + n[0], 0);
        }
        due.says(land, telling(NARROW.then("keep"), 7700, 7700, 7700), "check 3 20", 0);
        due.says(land, telling(new Run("table 59", "text spread n+y*100+9", "keep"), Lands.values(1, 5, 7700, 29)), "check 5 20", 0);
        due.says(land, telling(new Run("text spread 0-5", "keep"), 7700, 7700), "check 2 20", 0);
        due.says(land, telling(new Run("text spread 9999*9", "keep"), Lands.values(1, 5, 7700, 9999)), "check 5 20", 0);
    }

    private static void shares() {
        String of = "A LAND of k TABLES (2 .. 12) with PAIRS n: k draws";
        due.says(of, NARROW, "share 102 20 2 4", 1, "count 11", Lands.seedBehind(5, 2), "seed 5", Lands.seedBehind(5, 2), "share 112 20 12 4", 1, "count 11", Lands.seedBehind(5, 12));
        due.refuses(of, NARROW, BAD, "share 101 20 2 4", "share 113 20 2 4", "share 100 20 2 4", "share 199 20 2 4");
        String share = "THE SHARE of m LANDS (1 .. 200): how many of them have a RUN of r or more to p places.";
        due.says(share, NARROW, "share 103 20 3 4", 1, "share 103 20 4 4", 0, "share 103 20 2 4", 1, "share 20002 20 2 4", 200, "share 20003 20 4 1", 0);
        due.refuses(share, NARROW, BAD, "share 2 20 2 4", "share 12 20 2 4", "share 20102 20 2 4", "share 0 20 2 4", "share -102 20 2 4", "share -2 20 2 4", "share MIN 20 2 4", "share MAX 20 2 4");
        String told = "(told as 100 times m and k) with PAIRS n, of RUNS of r (2 .. 12) to p places. BAD: one of these. (z goes on.)";
        due.says(told, NARROW, "share 112 1 12 1", 1, "share 112 999 2 4", 1, "count 11", Lands.seedBehind(5, 24));
        due.refuses(told, NARROW, BAD, "share 102 0 2 4", "share 102 1000 2 4", "share 102 MIN 2 4", "share 102 MAX 2 4");
        due.refuses(told, NARROW, BAD, "share 112 20 1 4", "share 112 20 13 4", "share 112 20 MIN 4", "share 112 20 MAX 4");
        due.refuses(told, NARROW, BAD, "share 102 20 2 0", "share 102 20 2 5", "share 102 20 2 MIN", "share 102 20 2 MAX");
        due.says(told, NEW.then("share 305 21 2 3"), "count 11", Lands.seedBehind(1, 15), "share 305 21 2 3", 0, "count 11", Lands.seedBehind(1, 30));
    }

    private static void waiting() {
        due.says("One more number waits: how many.", NEW, "tell 5", 1, "tell MIN", 2, "tell MAX", 3, "tell 5", 4, "count 9", 4);
        due.says("FULL: 60 wait.", NEW.times(58, "tell 5"), "tell 5", 59, "tell 5", 60, "count 9", 60);
        due.refuses("FULL: 60 wait.", NEW.times(60, "tell 5"), FULL, "tell 5", "tell 0", "tell MIN");
        due.says("FULL: 60 wait.", NEW.times(60, "tell 5").then("check 2 2"), "tell 5", 1);
    }

    private static void checks() {
        String check = "0; else 1 and how many stand right ahead of the first that is not (or is missing, or one too many).";
        Run kept = new Run("seed 9", "keep");
        for (int k = 2; k <= 12; k += 5) {
            int[] values = Lands.values(9, k, 7700, 500);
            Run told = telling(kept, values);
            due.says(check, told, "check " + k + " 20", 0);
            due.says(check, told.then("tell 7"), "check " + k + " 20", 1 + k);
            due.says(check, told.times(60 - k, "tell 7"), "check " + k + " 20", 1 + k);
            due.says(check, telling(told.then("check " + k + " 20"), values[0]), "check " + k + " 20", 2); // those that waited ahead are gone
            Run longer = kept;
            for (int many = 0; many < k; many++) {
                due.says(check, longer, "check " + k + " 20", 1 + many);
                due.says(check, longer.then("tell " + (values[many] + 1)), "check " + k + " 20", 1 + many);
                longer = longer.then("tell " + values[many]);
            }
        }
        String told = "THE VALUES TOLD: those of a LAND of k TABLES with PAIRS n from THE IMAGE on.";
        int[] values = Lands.values(9, 4, 7000, 50);
        Run other = new Run("seed 9", "base 7000", "text spread 50", "keep", "seed 1", "base 1", "text spread 1");
        due.says(told, telling(other, values), "check 4 20", 0, "count 11", 1);
        due.says(told, telling(telling(other, values).then("check 4 20"), values), "check 4 20", 0); // THE IMAGE's z does not go on
        due.says(told, telling(telling(other, values).then("check 4 20", "back"), values), "check 4 20", 0, "count 11", 9);
    }

    private static void refusedChecks() {
        String wait = "The numbers that wait (none do then, whatever is answered)";
        Run kept = new Run("keep", "tell 1", "tell 2");
        due.says(wait, telling(new Run("text spread 0", "keep"), 7700, 7700), "check 2 5", 0, "count 9", 0, "tell 5", 1);
        due.says(wait, kept, "check 2 5", 1, "count 9", 0, "tell 5", 1);
        due.says(wait, kept, "check 1 5", BAD, "count 9", 0, "tell 5", 1);
        due.says(wait, new Run("tell 1", "tell 2"), "check 2 5", NO, "count 9", 0, "tell 5", 1);
        String of = "THE VALUES TOLD of k (2 .. 12) TABLES with PAIRS n";
        due.refuses(of, kept, BAD, BUT_WHAT_WAITS, "check 1 5", "check 13 5", "check MIN 5", "check MAX 5", "check 2 0", "check 2 1000", "check 2 MIN", "check 2 MAX");
        due.says(of, telling(new Run("text spread 0", "keep"), 7700, 7700), "check 2 1", 0);
        due.says(of, telling(new Run("text spread 0", "keep"), 7700, 7700), "check 2 999", 0);
        String order = "BAD; NO: there is no IMAGE.";
        due.refuses(order, new Run("tell 1"), BAD, BUT_WHAT_WAITS, "check 1 5", "check 13 5", "check 2 0", "check 2 1000");
        due.refuses(order, new Run("tell 1"), NO, BUT_WHAT_WAITS, "check 2 5", "check 12 999");
    }
}
