/** The edges that part 4 of the terms and promises 22 to 32 name, sentence by sentence. */
public final class LifeEdgesTest {
    private static final Due due = new Due();
    private static final int BAD = Due.BAD, NO = Due.NO, FULL = Due.FULL, NONE = Due.NONE;
    private static final Run NEW = new Run();
    private static final Run ROADS = new Run("road 0 1 3", "road 1 2 4", "road 4 5 30");
    /** From PLACE 0 on DAY 100 to PLACE 2 on DAY 200, with ROADS of 3 and 4 DAYS by way of PLACE 1. */
    private static final Run LIFE = ROADS.then("diary 100 0", "diary 200 2");
    private static final Run FULL_DIARY = fullDiary();
    private static final Run LEANERS = new Run("table 1", "table 2", "leaner 3 0 2", "leaner 2 1 1", "leaner 0 0 0");
    private static final Run FULL_OF_LEANERS = new Run("table 1").times(16, "leaner 1 0 1");
    private static final Run SOURCES = new Run("source 27", "source 65535", "source 0");
    private static final Run FULL_OF_SOURCES = new Run().times(8, "source 27");

    public static void main(String[] args) {
        roads();
        far();
        diary();
        visits();
        comings();
        leaners();
        falls();
        pillar();
        sources();
        next();
        heard();
        due.end();
    }

    private static Run fullDiary() {
        Run run = NEW;
        for (int k = 0; k < 20; k++) run = run.then("diary " + 10 * k + " " + k % 6);
        return run;
    }

    private static void roads() {
        String roads = "PLACES 0 .. 5, ROADS between two take DAYS 1 .. 30 (both ways; none at first).";
        for (int one = 0; one < 6; one++) {
            for (int other = 0; other < one; other++) due.says(roads, NEW, "road " + one + " " + other + " 0", 0, "far " + one + " " + other, NONE, "far " + other + " " + one, NONE);
        }
        due.says(roads, NEW, "road 0 5 1", 0, "far 0 5", 1, "far 5 0", 1, "road 5 0 30", 1, "far 0 5", 30, "road 0 5 2", 30);
        due.refuses(roads, ROADS, BAD, "road 0 1 -1", "road 0 1 31", "road 0 1 MIN", "road 0 1 MAX");
        due.refuses(roads, ROADS, BAD, "road -1 0 5", "road 6 0 5", "road 0 -1 5", "road 0 6 5", "road MIN 0 5", "road 0 MAX 5");
        String road = "DAYS of a ROAD between two PLACES (unlike) become n (0: none): what they were. BAD.";
        due.says(road, ROADS, "road 1 0 0", 3, "far 0 1", NONE, "far 0 2", NONE, "road 0 1 0", 0, "road 0 1 7", 0, "far 1 0", 7);
        due.refuses(road, ROADS, BAD, "road 0 0 5", "road 5 5 5", "road 3 3 0");
    }

    private static void far() {
        String far = "FAR: the least DAYS by ROADS (0: one and itself; none: NONE).";
        for (int place = 0; place < 6; place++) due.says(far, NEW, "far " + place + " " + place, 0);
        due.says(far, ROADS, "far 0 2", 7, "far 2 0", 7, "far 0 0", 0, "far 0 3", NONE, "far 3 0", NONE, "far 0 5", NONE, "far 4 5", 30);
        Run chain = new Run("road 0 1 30", "road 1 2 30", "road 2 3 30", "road 3 4 30", "road 4 5 30");
        due.says(far, chain, "far 0 5", 150, "far 5 0", 150, "road 0 5 30", 0, "far 0 5", 30, "far 0 4", 60);
        due.says(far, new Run("road 5 4 30", "road 4 3 30", "road 3 1 30", "road 1 2 30", "road 2 0 30"), "far 5 0", 150, "far 0 5", 150);
        due.says(far, ROADS.then("road 0 2 7"), "far 0 2", 7, "road 0 2 6", 7, "far 0 2", 6, "road 0 2 8", 6, "far 0 2", 7);
        due.refuses("FAR. BAD; NONE.", ROADS, BAD, "far -1 0", "far 6 0", "far 0 -1", "far 0 6", "far MIN 0", "far 0 MAX", "far 6 6");
    }

    private static void diary() {
        due.says("THE DIARY, 20 at most", NEW, "diary 5 1", 1, "diary 3 1", 2, "count 6", 2);
        due.says("THE DIARY, 20 at most", FULL_DIARY, "count 6", 20, "could 1 190 1", 1, "could 0 190 1", 0);
        due.refuses("THE DIARY, 20 at most", FULL_DIARY, FULL, "diary 5 1", "diary 9999 5");
        due.says("on a DAY 0 .. 9999 at a PLACE", new Run("road 0 5 30"), "diary 0 5", 1, "diary 9999 0", 2, "could 5 0 1", 1, "could 0 0 1", 0, "could 0 9999 1", 1, "could 5 9999 1", 0);
        due.refuses("on a DAY 0 .. 9999 at a PLACE", LIFE, BAD, "diary -1 0", "diary 10000 0", "diary MIN 0", "diary MAX 0", "diary 5 -1", "diary 5 6", "diary 5 MIN", "diary 5 MAX");
        due.refuses("(one of a DAY at most)", LIFE, NO, "diary 100 0", "diary 100 3", "diary 200 2");
        String order = "One more entry of THE DIARY: how many. BAD; NO: that DAY has one; FULL.";
        due.refuses(order, FULL_DIARY, NO, "diary 0 0", "diary 190 3");
        due.refuses(order, FULL_DIARY, BAD, "diary 0 6", "diary 10000 0", "diary -1 0", "diary 5 -1");
        due.refuses(order, LIFE, BAD, "diary 100 6", "diary 100 -1");
    }

    private static void visits() {
        String visit = "A VISIT to a PLACE from a DAY on for n DAYS (1 .. 99)";
        due.says(visit, NEW, "could 0 0 1", 1, "could 5 9999 99", 1);
        due.refuses(visit, LIFE, BAD, "could 0 100 0", "could 0 100 100", "could 0 100 -1", "could 0 100 MIN", "could 0 100 MAX");
        due.refuses("Whether a VISIT COULD be: 1, 0. BAD.", LIFE, BAD, "could -1 100 1", "could 6 100 1", "could MIN 100 1", "could MAX 100 1",
            "could 0 -1 1", "could 0 10000 1", "could 0 MIN 1", "could 0 MAX 1");
        String each = "each DAY of it with an entry is at that PLACE.";
        Run run = new Run("road 0 1 1", "diary 10 0", "diary 20 1", "diary 30 0", "diary 40 0");
        due.says(each, run, "could 0 10 10", 1, "could 0 10 11", 0, "could 0 21 9", 1, "could 0 21 30", 1, "could 0 30 11", 1, "could 1 20 10", 1, "could 1 20 11", 0);
        due.says(each, run, "could 1 10 1", 0, "could 1 11 9", 1, "could 1 11 10", 1, "could 0 20 1", 0, "could 0 19 2", 0);
        String without = "(Without an entry on that side it can.)";
        due.says(without, NEW, "could 3 50 5", 1);
        due.says(without, new Run("diary 10 0"), "could 0 0 1", 1, "could 0 11 99", 1, "could 3 0 1", 0, "could 3 11 1", 0);
        due.says(without, new Run("road 0 3 1", "diary 10 0"), "could 3 0 10", 1, "could 3 11 99", 1, "could 3 0 11", 0, "could 3 10 1", 0);
    }

    private static void comings() {
        String before = "if from THE DIARY's latest entry on or ahead of its first DAY one can come by then (that DAY, if they differ by FAR or more)";
        due.says(before, LIFE, "could 1 103 1", 1, "could 1 102 1", 0, "could 2 107 1", 1, "could 2 106 1", 0, "could 0 100 1", 1, "could 0 101 1", 1, "could 1 100 1", 0);
        due.says(before, LIFE.then("diary 104 1"), "could 2 107 1", 0, "could 2 108 1", 1, "could 0 104 1", 0); // the latest entry, not an earlier one
        due.says(before, LIFE.then("diary 90 1"), "could 1 102 1", 0, "could 1 103 1", 1); // by days, not by the order of writing
        due.says(before, new Run("road 0 1 3", "diary 60 0", "diary 50 1", "diary 40 0", "diary 70 1", "diary 55 1"), "could 1 62 1", 0, "could 1 63 1", 1, "could 0 57 1", 0, "could 0 58 1", 1);
        due.says(before, LIFE, "could 3 150 1", 0, "could 4 150 1", 0); // no ROAD there
        String behind = "and from its last DAY to the next entry behind that likewise";
        due.says(behind, LIFE, "could 1 150 47", 1, "could 1 150 48", 0, "could 0 150 44", 1, "could 0 150 45", 0, "could 2 150 99", 1);
        due.says(behind, LIFE.then("diary 190 1"), "could 0 150 38", 1, "could 0 150 39", 0); // the next entry, not a later one
        Run mixed = new Run("road 0 1 3", "diary 60 0", "diary 50 1", "diary 70 1", "diary 65 0", "diary 90 1", "diary 80 0");
        due.says(behind, mixed, "could 1 51 7", 1, "could 1 51 8", 0, "could 0 53 7", 1, "could 0 65 3", 1, "could 0 65 4", 0, "could 1 70 8", 1, "could 1 70 7", 1, "could 1 70 9", 0);
        due.says(behind, mixed, "could 0 83 5", 1, "could 0 83 6", 0, "could 1 90 99", 1, "could 0 80 8", 1, "could 0 60 1", 1, "could 1 50 1", 1);
        due.says(behind, ROADS.then("diary 200 3"), "could 0 150 1", 0, "could 3 150 1", 1);
        due.says(behind, ROADS.then("diary 9999 2"), "could 0 9900 93", 1, "could 0 9900 94", 0, "could 0 9999 1", 0, "could 2 9999 99", 1);
        due.says(behind, LIFE.then("road 0 1 0"), "could 0 150 1", 0, "could 1 150 1", 0, "could 2 200 1", 1);
    }

    private static void leaners() {
        due.says("One more LEANER: its number.", LEANERS, "leaner 0 0 0", 3, "leaner 0 0 0", 4, "count 7", 5);
        due.says("LEANERS, 16 at most, numbered from 0", new Run("table 1").times(14, "leaner 1 0 1"), "leaner 1 16383 1", 14, "leaner 0 32767 28", 15, "count 7", 16);
        due.refuses("LEANERS, 16 at most", FULL_OF_LEANERS, FULL, "leaner 0 0 0", "leaner 1 65535 28");
        String leans = "LEAN on TABLES (bits) and on LEANERS with lesser numbers (bits), NEEDS n of all these at least (0 and more).";
        due.says(leans, LEANERS, "leaner 3 7 5", 3, "falls 0", 0, "falls 2", 11, "leaner 0 8 0", 4, "falls 2", 11);
        due.refuses(leans, LEANERS, BAD, "leaner 0 8 0", "leaner 0 16 0", "leaner 0 15 0");
        String bad = "BAD: bits of TABLES or LEANERS that are not there, NEEDS (0 .. 28); FULL.";
        due.says(bad, LEANERS, "leaner 0 0 0", 3, "leaner 0 0 28", 4, "falls 0", 16);
        due.refuses(bad, LEANERS, BAD, "leaner 4 0 0", "leaner 2048 0 0", "leaner -1 0 0", "leaner MIN 0 0", "leaner MAX 0 0", "leaner 7 0 0");
        due.refuses(bad, LEANERS, BAD, "leaner 0 32768 0", "leaner 0 -1 0", "leaner 0 MIN 0", "leaner 0 MAX 0");
        due.refuses(bad, LEANERS, BAD, "leaner 0 0 -1", "leaner 0 0 29", "leaner 0 0 MIN", "leaner 0 0 MAX");
        due.refuses(bad, NEW, BAD, "leaner 1 0 0", "leaner 0 1 0");
        due.says(bad, NEW, "leaner 0 0 0", 0);
        due.refuses(bad, FULL_OF_LEANERS, BAD, "leaner 2 0 0", "leaner 0 65536 0", "leaner 0 0 29");
        due.says(bad, NEW.times(12, "table 1"), "leaner 4095 0 12", 0, "falls 0", 0, "falls 2048", 1);
        due.refuses(bad, NEW.times(12, "table 1"), BAD, "leaner 4096 0 0", "leaner 8191 0 0");
    }

    private static void falls() {
        String falls = "those LEANERS of which fewer than NEEDS of those on which they LEAN stand (one behind the other, by numbers).";
        due.says(falls, LEANERS, "falls 0", 0, "falls 1", 1, "falls 2", 3, "falls 3", 3);
        due.says(falls, new Run("table 1", "leaner 1 0 1", "leaner 0 1 1", "leaner 0 2 1", "leaner 0 7 1", "leaner 0 0 1"), "falls 0", 16, "falls 1", 31);
        due.says(falls, FULL_OF_LEANERS, "falls 0", 0, "falls 1", 65535, "left 1", 0, "left 0", 65535);
        String set = "FALLS by a set of TABLES (bits, there or not): those LEANERS, as bits. BAD: below 0, above 4095.";
        due.says(set, LEANERS, "falls 4095", 3, "falls 4092", 0, "falls 2048", 0);
        due.says(set, NEW, "falls 0", 0, "falls 4095", 0);
        due.refuses(set, LEANERS, BAD, "falls -1", "falls 4096", "falls MIN", "falls MAX");
        due.says("LEFT: those that stand then.", LEANERS, "left 0", 7, "left 1", 6, "left 2", 4, "left 4095", 4, "left 4092", 7);
        due.says("LEFT: those that stand then.", NEW, "left 0", 0, "left 4095", 0);
        due.refuses("LEFT. BAD likewise.", LEANERS, BAD, "left -1", "left 4096", "left MIN", "left MAX");
    }

    private static void pillar() {
        String pillar = "THE PILLAR: the TABLE by whose fall alone most LEANERS fall; of several the least.";
        due.says(pillar, LEANERS, "pillar", 1);
        due.says(pillar, new Run("table 1", "table 1", "table 1", "leaner 2 0 1", "leaner 4 0 1"), "pillar", 1);
        due.says(pillar, new Run("table 1", "table 1", "leaner 3 0 1"), "pillar", 0, "falls 3", 1); // alone neither makes it fall
        due.says(pillar, NEW.times(12, "table 1").then("leaner 2048 0 1"), "pillar", 11);
        due.says(pillar, NEW.times(12, "table 1"), "pillar", 0);
        due.says("NONE: there are no TABLES.", NEW, "pillar", NONE);
        due.says("NONE: there are no TABLES.", NEW.then("leaner 0 0 1"), "pillar", NONE);
        due.says("NONE: there are no TABLES.", new Run("table 1"), "pillar", 0);
    }

    private static void sources() {
        due.says("SOURCES, 8 at most, numbered from 0", NEW.times(6, "source 5"), "source 5", 6, "source 5", 7, "count 8", 8);
        due.refuses("SOURCES, 8 at most", FULL_OF_SOURCES, FULL, "source 0", "source 65535");
        String one = "One more SOURCE (0 .. 65535): its number. BAD; FULL.";
        due.says(one, NEW, "source 0", 0, "source 65535", 1, "heard 255 0 0", 255, "heard 255 1 3", 255);
        due.refuses(one, SOURCES, BAD, "source -1", "source 65536", "source MIN", "source MAX");
        due.refuses(one, FULL_OF_SOURCES, BAD, "source -1", "source 65536");
        String digits = "(told as eight digits to the base 4, TALE 0 the lowest)";
        due.says(digits, new Run("source 3", "source 49152"), "heard 255 0 3", 1, "heard 255 0 0", 254, "heard 255 1 3", 128, "heard 255 1 0", 127);
    }

    private static void next() {
        String each = "tell of each of 8 TALES (0 .. 7) 0 .. 3";
        for (int tale = 0; tale < 8; tale++) {
            for (int tells = 0; tells < 4; tells++) {
                for (int answer = 0; answer < 4; answer++) {
                    due.says(each, new Run("source " + (tells << 2 * tale)), "heard " + (1 << tale) + " 0 " + answer, answer == tells ? 1 << tale : 0);
                }
            }
        }
        String next = "the one by which most of these could be left is the fewest; of several the least.";
        due.says(next, new Run("source 0"), "next 255", 0, "next 128", 0);
        due.says(next, SOURCES, "next 15", 0, "next 255", 0, "next 1", 0, "next 128", 0);
        due.says(next, new Run("source 0", "source 1", "source 5", "source 20"), "next 3", 1, "next 6", 2, "next 4", 0, "next 7", 1);
        due.says(next, new Run("source 65535", "source 49152"), "next 255", 1, "next 128", 0, "next 192", 1);
        String of = "THE NEXT SOURCE for TALES (bits 0 .. 7; one at least). BAD; NONE: there are no SOURCES.";
        due.says(of, NEW, "next 1", NONE, "next 255", NONE);
        due.refuses(of, NEW, BAD, "next 0", "next 256", "next -1", "next MIN", "next MAX");
        due.refuses(of, SOURCES, BAD, "next 0", "next 256", "next -1", "next MIN", "next MAX");
    }

    private static void heard() {
        String heard = "TALES of a set (bits 0 .. 7; none, too) that are left if a SOURCE tells an answer (0 .. 3). BAD.";
        due.says(heard, SOURCES, "heard 0 0 0", 0, "heard 255 0 0", 248, "heard 255 0 3", 1, "heard 15 0 3", 1, "heard 14 0 3", 0, "heard 255 2 0", 255, "heard 255 2 3", 0);
        due.refuses(heard, SOURCES, BAD, "heard -1 0 0", "heard 256 0 0", "heard MIN 0 0", "heard MAX 0 0", "heard 1 -1 0", "heard 1 3 0", "heard 1 MIN 0", "heard 1 MAX 0",
            "heard 1 0 -1", "heard 1 0 4", "heard 1 0 MIN", "heard 1 0 MAX");
        due.refuses(heard, NEW, BAD, "heard 0 0 0");
        String left = "LEFT by answers: TALES of a set of which told SOURCES tell what was heard.";
        due.says(left, new Run("source 27", "source 85"), "heard 255 0 0", 248, "heard 248 1 1", 8, "heard 248 1 0", 240, "heard 240 0 3", 0, "heard 0 1 0", 0);
        due.refuses(heard, FULL_OF_SOURCES, BAD, "heard 0 8 0");
    }
}
