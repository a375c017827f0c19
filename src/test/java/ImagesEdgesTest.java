import java.util.Arrays;
import java.util.Map;

/** The edges of AN IMAGE and of promises 45 to 47, and those of every refused call at once, sentence by sentence. */
public final class ImagesEdgesTest {
    private static final Due due = new Due();
    private static final int BAD = Due.BAD, NO = Due.NO;
    private static final Run NEW = new Run();
    private static final String[] MORE = {"table 50", "figure 0 6 1 1 -1", "turns 0 5", "base 1", "text working 0 5", "text spread 7", "text odd 1", "line 1 3", "line 5 9",
        "choose 1", "clear", "road 0 1 9", "road 2 5 9", "diary 77 1", "leaner 0 0 9", "source 5", "seed 5", "share 302 5 2 2", "print 0 0 5", "print 0 1 5"};

    public static void main(String[] args) {
        keeps();
        none();
        again();
        notKept();
        counts();
        due.end();
    }

    private static void same(String sentence, Run one, Run other, String... but) {
        String changed = Probes.difference(Probes.behind(one, but), Probes.behind(other, but));
        due.is(sentence + " changed: " + changed, changed.length(), 0);
    }

    private static void keeps() {
        String keep = "AN IMAGE is kept: the number of FIGURES.";
        due.says(keep, NEW, "keep", 0, "table 1", 0, "figure 0 1 1 1 -1", 0, "keep", 1, "figure 0 1 1 1 -1", 1, "back", 1);
        due.says(keep, NEW.then("table 1").times(40, "figure 0 1 1 1 -1"), "keep", 40, "back", 40);
        for (World w : World.all()) due.says(keep, w.run, "keep", w.table.length, "back", w.table.length);
    }

    private static void none() {
        due.refuses("NO: there is none.", NEW, NO, "back");
        due.refuses("NO: there is none.", World.some(false).run, NO, "back");
        due.refuses("NO: there is none.", World.full().run, NO, "back");
    }

    /** Whatever is changed behind keep, back makes all as it was, and again behind other changes. */
    private static void again() {
        due.says("All is as THE IMAGE: the number of FIGURES.", World.some(true).run, "count 1", 10, "back", 9, "count 1", 9, "back", 9, "told 7 1", 0, "count 11", 77);
        String all = "all can become as it is (again and again).";
        due.quoted(all);
        for (World w : new World[] {World.empty(), World.some(true), World.some(false)}) {
            Run kept = w.run.then("keep");
            for (String each : MORE) {
                boolean uses = each.startsWith("text"); // a TEXT uses THE TAPE up, which no image gives back
                String[] but = uses ? new String[] {Probes.TAPE} : new String[0];
                same(all + " | " + w.name + ", " + each, kept, kept.then(each, "back"), but);
                same(all + " | " + w.name + ", twice " + each, kept, kept.then(each, "back", each, "back"), but);
            }
            Run twice = kept.then(MORE).then("back").then(MORE).then("back");
            same(all + " | " + w.name, kept, twice, Probes.TAPE);
        }
        due.says(all, World.some(true).run.then("clear", "choose 3", "choose 4", "back"), "choose 6", NO, "choose 2", NO, "choose 3", 3);
        due.says(all, new Run("seed 3", "keep", "seed 4", "keep", "seed 5"), "back", 0, "count 11", 4); // the latest one alone
    }

    private static void notKept() {
        String but = "AN IMAGE keeps all but SHEETS, SLOTS, numbers that wait, THE TAPE";
        due.quoted(but);
        Run run = World.some(true).run;
        String[] others = {"sheet 0 -1 0", "sheet 2 1 5", "mark 0 3 77", "copy 0 0 0 3 1", "lay 1 0 0", "lay 0 3 5", "lay 3 1 2", "tell 5", "check 5 50", "feed 1 2 3", "trim 3", "text"};
        for (String each : others) {
            Run changed = run.then("keep", each);
            Run undone = changed.then("back");
            Map<String, int[]> before = Probes.behind(changed);
            Map<String, int[]> after = Probes.behind(undone);
            for (String part : new String[] {"sheet 0", "sheet 2", "slots", "items of slot 0", "items of slot 1", "tape bytes", "waiting for more"}) {
                if (each.equals("text") && part.equals("tape bytes")) continue; // it tells how many TEXTS there are, too
                due.is(but + " | " + each + ": " + part, Arrays.equals(before.get(part), after.get(part)) ? 1 : 0, 1);
            }
        }
        due.says(but, new Run("keep", "sheet 0 0 3", "lay 0 3 5", "tell 1", "feed 1 2 3", "back"), "mark 0 2 1", 1, "rest 0 3", 2, "count 9", 1, "count 10", 12);
        due.says(but, new Run("sheet 0 0 3", "lay 0 3 5", "tell 1", "feed 1 2 3", "keep", "sheet 0 -1 0", "lay 0 0 0", "check 2 2", "trim 0", "back"),
            "mark 0 2 1", Due.NOTHING, "rest 0 3", Due.NOTHING, "count 9", 0, "count 10", 0);
    }

    private static void counts() {
        String many = "How many: 0 TABLES, 1 FIGURES, 2 that FIT, 3 UNKIND ones, 4 TEXTS, 5 told for STORIES, 6 entries of THE DIARY,"
            + " 7 LEANERS, 8 SOURCES, 9 numbers that wait, 10 bytes of THE TAPE, 11 z. BAD.";
        int[] empty = {0, 0, 0, 0, 0, 0, 0, 0, 0, 0, 0, 1};
        int[] full = {12, 40, -1, 10, 14, 6, 20, 16, 8, 60, 96, 1};
        for (int what = 0; what < 12; what++) {
            due.says(many, NEW, "count " + what, empty[what]);
            if (what != 2) due.says(many, World.full().run, "count " + what, full[what]);
        }
        due.says(many, NEW.then("table 1").times(40, "figure 0 6 1 1 -1"), "count 2", 40, "count 3", 40);
        due.says(many, NEW.then("table 1").times(40, "figure 0 4 1 1 -1"), "count 2", 0, "count 3", 0);
        for (World w : World.all()) due.refuses(many, w.run, BAD, "count -1", "count 12", "count MIN", "count MAX");
    }
}
