import java.util.Arrays;

/** An object that holds some of everything, with the facts that tell which calls on it are refused, and how. */
final class World {
    final String name;
    final Run run;
    int[] years = {};
    /** By FIGURE: its TABLE, its KIND, whether it is in a LINE. */
    int[] table = {};
    int[] kind = {};
    boolean[] lined = {};
    /** By LINE: the TABLE of its last FIGURE (-1: it is empty). */
    int[] lastTable = {-1, -1, -1, -1, -1, -1};
    int[] chosen = {};
    int texts;
    int bytes;
    int[] days = {};
    int leaners;
    int sources;
    /** By SHEET: its sort (-1: MISSING), its places, how many of them from the first on can be VALUES. */
    int[] sort = {-1, -1, -1, -1};
    int[] size = new int[4];
    int[] values = new int[4];
    /** By SLOT: what it holds, the KIND of a FIGURE, the places of a SHEET, the place that is NO NUMBER (-1: none). */
    int[] thing = new int[5];
    int[] slotKind = new int[5];
    int[] slotSize = new int[5];
    int[] noNumber = {-1, -1, -1, -1, -1};
    int waits;
    boolean imaged;

    private World(String name, Run run) {
        this.name = name;
        this.run = run;
    }

    static World[] all() {
        return new World[] {empty(), some(true), some(false), full()};
    }

    static World empty() {
        return new World("empty", new Run());
    }

    /** Room everywhere, something of each kind; with an image that is not as all is, or without one. */
    static World some(boolean imaged) {
        Run run = someKept();
        if (imaged) run = run.then("keep", "turns 7 6", "seed 99", "base 7000", "road 0 1 5");
        run = run.then("figure 3 4 0 5 8", "text odd c>1", "line 5 7", "choose 0", "diary 0 0", "leaner 0 3 0", "source 228");
        run = run.then("sheet 0 0 6", "mark 0 0 7700", "mark 0 1 42", "mark 0 2 NONE", "mark 0 3 9", "mark 0 4 -5", "mark 0 5 99999");
        run = run.then("sheet 1 1 3", "mark 1 0 5", "mark 1 1 -1", "mark 1 2 30000", "sheet 3 0 0");
        run = run.then("lay 1 1 6", "lay 2 2 0", "lay 3 3 -17", "lay 4 2 1", "mark 0 0 7701", "tape odd d-c");
        int[] land = Lands.values(77, 5, 7050, 59); // SPREAD for 50, YEAR 0 is n + 9 here
        for (int value : land) run = run.then("tell " + value);
        World w = new World(imaged ? "some" : "some, no image", run);
        w.years = new int[] {3, 3, 10, 20};
        w.table = new int[] {0, 0, 1, 1, 2, 2, 2, 3, 3, 3};
        w.kind = new int[] {1, 4, 5, 2, 3, 6, 7, imaged ? 6 : 0, 1, 4};
        w.lined = new boolean[10];
        for (int f : new int[] {0, 2, 4, 5, 7}) w.lined[f] = true;
        w.lastTable = new int[] {2, -1, -1, -1, -1, 3};
        w.chosen = new int[] {6, 2, 0};
        w.texts = 5;
        w.bytes = 7;
        w.days = new int[] {10, 20, 9999, 0};
        w.leaners = 3;
        w.sources = 2;
        w.sort = new int[] {0, 1, -1, 0};
        w.size = new int[] {6, 3, 0, 0};
        w.values = new int[] {2, 1, 0, 0};
        w.thing = new int[] {0, 1, 2, 3, 2};
        w.slotKind[1] = 7;
        w.slotSize = new int[] {0, 0, 6, 0, 3};
        w.noNumber[2] = 2;
        w.waits = 5;
        w.imaged = imaged;
        return w;
    }

    private static Run someKept() {
        Run run = new Run("table 3", "table 3", "table 10", "table 20");
        run = run.then("figure 0 1 7000 40 -1", "figure 0 4 7000 99 0", "figure 1 5 7010 100 1", "figure 1 2 7110 101 2");
        run = run.then("figure 2 3 7160 250 3", "figure 2 6 1234 999 -1", "figure 2 7 1236 300 5", "figure 3 0 9999 1 -1", "figure 3 1 0 20 4");
        run = run.then("text working 1 f+n", "text working 2 7150", "text spread n+y*2+9", "text working 9 i");
        run = run.then("line 0 0", "line 0 2", "line 0 4", "line 5 5", "choose 6", "choose 2");
        run = run.then("road 0 1 3", "road 1 2 4", "road 4 5 30", "diary 10 0", "diary 20 2", "diary 9999 5");
        return run.then("leaner 1 0 1", "leaner 6 1 2", "source 27", "base 7050", "seed 77");
    }

    /** No room anywhere, no image. */
    static World full() {
        Run run = new Run();
        World facts = new World("full", run);
        facts.years = new int[12];
        for (int k = 0; k < 12; k++) {
            facts.years[k] = 5 * k;
            run = run.then("table " + 5 * k);
        }
        facts.table = new int[40];
        facts.kind = new int[40];
        facts.lined = new boolean[40];
        for (int f = 0; f < 40; f++) {
            facts.table[f] = f * 3 / 10;
            facts.kind[f] = f % 8;
            run = run.then("figure " + facts.table[f] + " " + facts.kind[f] + " " + (7700 + f * f % 30) + " " + (20 + f) + " " + (f < 3 ? -1 : f - 3));
        }
        for (int f = 0, last = -1; f < 40; f++) {
            if (facts.table[f] <= last) continue;
            last = facts.table[f];
            facts.lined[f] = true;
            run = run.then("line 2 " + f);
        }
        facts.lastTable[2] = 11;
        for (int k = 0; k < 14; k++) run = run.then(k == 3 ? "text spread n" : k == 4 ? "text odd c-d" : "text working " + k % 12 + " f");
        for (int k = 0; k < 6; k++) run = run.then("choose " + 7 * k);
        facts.chosen = new int[] {0, 7, 14, 21, 28, 35};
        facts.days = new int[20];
        for (int k = 0; k < 20; k++) {
            facts.days[k] = k * k;
            run = run.then("diary " + k * k + " " + k % 6);
        }
        for (int k = 0; k < 5; k++) run = run.then("road " + k + " " + (k + 1) + " " + (k + 1));
        for (int k = 0; k < 16; k++) run = run.then("leaner " + (5 << k % 9) + " " + (k > 2 ? 3 << k - 3 : 0) + " " + k % 4);
        for (int k = 0; k < 8; k++) run = run.then("source " + (65535 - 7777 * k));
        run = run.then("sheet 0 0 24", "sheet 1 1 24", "sheet 2 0 24", "mark 2 0 -1", "mark 0 23 NONE", "mark 1 3 -2");
        run = run.then("lay 0 1 39", "lay 1 2 0", "lay 2 2 1", "lay 3 3 MIN", "lay 4 3 0", "tape odd c" + " ".repeat(91));
        int[] land = Lands.values(1, 5, 7700, 50);
        for (int k = 0; k < 60; k++) run = run.then("tell " + (k < 5 ? land[k] : k));
        World w = new World("full", run);
        w.years = facts.years;
        w.table = facts.table;
        w.kind = facts.kind;
        w.lined = facts.lined;
        w.lastTable = facts.lastTable;
        w.chosen = facts.chosen;
        w.days = facts.days;
        w.texts = 14;
        w.bytes = 96;
        w.leaners = 16;
        w.sources = 8;
        w.sort = new int[] {0, 1, 0, -1};
        w.size = new int[] {24, 24, 24, 0};
        w.values = new int[] {23, 3, 0, 0};
        w.thing = new int[] {1, 2, 2, 3, 3};
        w.slotKind[0] = 7;
        w.slotSize = new int[] {0, 24, 24, 0, 0};
        w.noNumber[1] = 23;
        w.waits = 60;
        return w;
    }

    static boolean holds(int[] row, int v) {
        return Arrays.stream(row).anyMatch(each -> each == v);
    }
}
