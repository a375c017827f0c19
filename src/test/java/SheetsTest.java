import java.util.Random;

/** Promises 35 to 42: sheet, mark, print, copy, lay, ask, item, rest. */
public final class SheetsTest {
    private static final Due due = new Due();

    public static void main(String[] args) {
        sheets();
        marks();
        prints();
        copies();
        lays();
        asks();
        items();
        rests();
        for (int seed = 0; seed < 500; seed++) randomCopies(new Random(seed));
        due.end();
    }

    /** A place of a SHEET, by way of SLOT 4. */
    private static int at(TwinTables x, int sheet, int place) {
        x.lay(4, 2, sheet);
        return x.item(4, place);
    }

    private static void sheets() {
        TwinTables x = new TwinTables();
        due.is("sheet", x.sheet(-1, 0, 1), Due.BAD);
        due.is("sheet", x.sheet(4, 0, 1), Due.BAD);
        due.is("sort", x.sheet(0, -2, 1), Due.BAD);
        due.is("sort", x.sheet(0, 2, 1), Due.BAD);
        due.is("n", x.sheet(0, 0, 25), Due.BAD);
        due.is("n", x.sheet(0, 1, -1), Due.SIZE);
        due.is("bad ahead of size", x.sheet(4, 0, -1), Due.BAD);
        due.is("bad ahead of size", x.sheet(0, 2, -1), Due.BAD);
        due.is("still missing", x.mark(0, 0, 0), Due.NOTHING);
        due.is("n", x.sheet(0, 0, 24), 24);
        due.is("n", x.sheet(1, 1, 0), 0);
        due.is("none", x.mark(1, 0, 0), Due.INDEX);
        x.mark(0, 0, 6);
        x.mark(0, 23, 5);
        due.is("marked", at(x, 0, 23), 5);
        due.is("anew", x.sheet(0, 0, 24), 24);
        for (int k = 0; k < 24; k++) due.is("all 0", at(x, 0, k), 0);
        x.mark(0, 23, 5);
        due.is("refused", x.sheet(0, 0, -1), Due.SIZE);
        due.is("as it was", at(x, 0, 23), 5);
        due.is("missing, n any", x.sheet(0, -1, -7), 0);
        due.is("missing, n any", x.sheet(0, -1, 99), 0);
        due.is("missing", x.mark(0, 0, 0), Due.NOTHING);
    }

    private static void marks() {
        TwinTables x = new TwinTables();
        due.is("sheet", x.mark(-1, 0, 0), Due.BAD);
        due.is("sheet", x.mark(4, 0, 0), Due.BAD);
        due.is("nothing ahead of all else", x.mark(0, -1, 100000), Due.NOTHING);
        x.sheet(0, 0, 3);
        x.sheet(1, 1, 3);
        due.is("index ahead of bad", x.mark(0, 3, 100000), Due.INDEX);
        due.is("index ahead of kind", x.mark(1, -1, Due.NONE), Due.INDEX);
        due.is("float", x.mark(0, 0, 100000), Due.BAD);
        due.is("float", x.mark(0, 0, -100000), Due.BAD);
        due.is("float", x.mark(0, 0, 99999), 1);
        due.is("float", x.mark(0, 1, -99999), 1);
        due.is("no number", x.mark(0, 2, Due.NONE), 1);
        due.is("float", at(x, 0, 0), 99999);
        due.is("float", at(x, 0, 1), -99999);
        due.is("no number", at(x, 0, 2), Due.KIND);
        due.is("a number again", x.mark(0, 2, 4), 1);
        due.is("a number again", at(x, 0, 2), 4);
        due.is("short", x.mark(1, 0, Due.NONE), Due.KIND);
        due.is("short", x.mark(1, 0, 32767), 1);
        due.is("short", x.mark(1, 1, 32768), 1);
        due.is("short", x.mark(1, 2, Integer.MAX_VALUE), 1);
        due.is("short", at(x, 1, 0), 32767);
        due.is("short", at(x, 1, 1), -32768);
        due.is("short", at(x, 1, 2), -1);
    }

    private static void prints() {
        TwinTables x = new TwinTables();
        x.sheet(0, 0, 24);
        due.is("table", x.print(0, 0, 1), Due.BAD);
        x.table(4);
        x.table(9);
        due.is("table", x.print(2, 0, 1), Due.BAD);
        due.is("sheet", x.print(0, 4, 1), Due.BAD);
        due.is("sheet", x.print(0, -1, 1), Due.BAD);
        due.is("n", x.print(0, 0, 0), Due.BAD);
        due.is("n", x.print(0, 0, 1000), Due.BAD);
        due.is("bad ahead of nothing", x.print(0, 1, 0), Due.BAD);
        due.is("nothing", x.print(0, 1, 1), Due.NOTHING);
        x.mark(0, 0, 9999);
        x.mark(0, 2, 10000);
        due.is("up to one too great", x.print(1, 0, 33), 2);
        int[] want = {1, 1, 9999, 33, Due.NONE};
        for (int what = 0; what < 5; what++) due.is("figure " + what, x.told(0, what), want[what]);
        due.is("figure", x.told(1, 2), 0);
        x.mark(0, 0, -1);
        due.is("none below 0", x.print(1, 0, 33), 0);
        x.mark(0, 0, Due.NONE);
        due.is("no number", x.print(1, 0, 33), 0);
        x.mark(0, 0, 1);
        x.mark(0, 2, 2);
        due.is("up to the end", x.print(0, 0, 999), 24);
        due.is("full", x.print(0, 0, 999), Due.FULL);
        due.is("none came", x.count(1), 26);
        x.sheet(2, 1, 14);
        x.mark(2, 13, -5);
        due.is("shorts", x.print(0, 2, 5), 13);
        due.is("full", x.print(0, 2, 5), Due.FULL);
        x.sheet(2, 1, 1);
        due.is("just room", x.print(0, 2, 5), 1);
        due.is("full", x.print(0, 2, 5), Due.FULL);
        x.sheet(2, 1, 0);
        due.is("none need no room", x.print(0, 2, 5), 0);
    }

    private static void copies() {
        TwinTables x = new TwinTables();
        x.sheet(0, 0, 6);
        x.sheet(1, 1, 3);
        x.sheet(2, 0, 3);
        due.is("from", x.copy(4, 0, 0, 0, 0), Due.BAD);
        due.is("from", x.copy(-1, 0, 0, 0, 0), Due.BAD);
        due.is("to", x.copy(0, 0, 4, 0, 0), Due.BAD);
        due.is("to", x.copy(3, 0, -1, 0, 0), Due.BAD);
        due.is("nothing", x.copy(3, 0, 0, 0, 0), Due.NOTHING);
        due.is("nothing ahead of index", x.copy(0, 9, 3, 9, 9), Due.NOTHING);
        due.is("nothing", x.copy(3, 0, 3, 0, 0), Due.NOTHING);
        due.is("kind ahead of index", x.copy(0, 9, 1, 9, 9), Due.KIND);
        due.is("kind", x.copy(1, 0, 0, 0, 0), Due.KIND);
        due.is("index", x.copy(0, -1, 2, 0, 1), Due.INDEX);
        due.is("index", x.copy(0, 0, 2, -1, 1), Due.INDEX);
        due.is("index", x.copy(0, 4, 2, 0, 3), Due.INDEX);
        due.is("index", x.copy(0, 0, 2, 1, 3), Due.INDEX);
        due.is("index", x.copy(0, 0, 2, 0, -1), Due.INDEX);
        due.is("index", x.copy(0, Integer.MAX_VALUE, 2, 0, 1), Due.INDEX);
        due.is("index", x.copy(0, 1, 2, 0, Integer.MAX_VALUE), Due.INDEX);
        due.is("none from the end", x.copy(0, 6, 2, 3, 0), 0);
        due.is("none from past the end", x.copy(0, 7, 2, 3, 0), Due.INDEX);
        for (int k = 0; k < 6; k++) x.mark(0, k, k == 4 ? Due.NONE : 10 + k);
        due.is("copy", x.copy(0, 3, 2, 0, 3), 3);
        due.is("copied", at(x, 2, 0), 13);
        due.is("copied", at(x, 2, 1), Due.KIND);
        due.is("copied", at(x, 2, 2), 15);
        due.is("onto itself", x.copy(0, 0, 0, 1, 5), 5);
        int[] want = {10, 10, 11, 12, 13, Due.KIND};
        for (int k = 0; k < 6; k++) due.is("as they were", at(x, 0, k), want[k]);
        due.is("onto itself", x.copy(0, 2, 0, 0, 4), 4);
        int[] then = {11, 12, 13, Due.KIND, 13, Due.KIND};
        for (int k = 0; k < 6; k++) due.is("as they were", at(x, 0, k), then[k]);
    }

    private static void lays() {
        TwinTables x = Due.withTables(1);
        x.figure(0, 1, 5, 5, -1);
        x.sheet(0, 0, 1);
        due.is("slot", x.lay(-1, 0, 0), Due.BAD);
        due.is("slot", x.lay(5, 0, 0), Due.BAD);
        due.is("thing", x.lay(0, -1, 0), Due.BAD);
        due.is("thing", x.lay(0, 4, 0), Due.BAD);
        due.is("figure", x.lay(0, 1, 1), Due.BAD);
        due.is("figure", x.lay(0, 1, -1), Due.BAD);
        due.is("sheet", x.lay(0, 2, 4), Due.BAD);
        due.is("sheet", x.lay(0, 2, -1), Due.BAD);
        due.is("missing", x.lay(0, 2, 1), Due.NOTHING);
        due.is("still nothing", x.lay(0, 1, 0), 0);
        due.is("a figure", x.lay(0, 2, 0), 1);
        due.is("a sheet", x.lay(0, 3, Integer.MIN_VALUE), 2);
        due.is("refused", x.lay(0, 2, 1), Due.NOTHING);
        due.is("a number", x.lay(0, 0, 77), 3);
        due.is("nothing", x.lay(0, 0, -77), 0);
    }

    private static void asks() {
        TwinTables x = Due.withTables(1);
        int[] prices = {5, 1, 3, 4, 2, 8, 20, 29};
        int[] over = {1, 3, 5, 13, 17, 33, 65, 193};
        for (int kind = 0; kind < 8; kind++) {
            x.figure(0, kind, 5, 999, -1);
            x.lay(1, 1, kind);
            for (int other = 0; other < 8; other++) {
                due.is("ask " + kind + " " + other, x.ask(1, other), (over[kind] >> other & 1) == 1 ? prices[kind] : Due.KIND);
            }
        }
        x.turns(7, 1);
        due.is("for good", x.ask(1, 6), 29);
        x.keep();
        x.back();
        due.is("for good", x.ask(1, 0), 29);
        due.is("slot", x.ask(5, 0), Due.BAD);
        due.is("slot", x.ask(-1, 0), Due.BAD);
        due.is("kind", x.ask(1, 8), Due.BAD);
        due.is("bad ahead of nothing", x.ask(0, -1), Due.BAD);
        due.is("nothing", x.ask(0, 0), Due.NOTHING);
        x.lay(0, 3, 5);
        due.is("a number", x.ask(0, 0), Due.KIND);
        x.sheet(0, 0, 3);
        x.lay(0, 2, 0);
        due.is("a sheet", x.ask(0, 0), Due.KIND);
    }

    private static void items() {
        TwinTables x = Due.withTables(1);
        x.figure(0, 1, 5, 5, -1);
        x.sheet(0, 0, 2);
        x.mark(0, 0, 8);
        x.mark(0, 1, Due.NONE);
        x.lay(3, 2, 0);
        x.mark(0, 0, 9);
        x.sheet(0, 1, 24);
        due.is("as it was", x.item(3, 0), 8);
        due.is("no number", x.item(3, 1), Due.KIND);
        due.is("index", x.item(3, 2), Due.INDEX);
        due.is("index", x.item(3, -1), Due.INDEX);
        due.is("slot", x.item(5, 0), Due.BAD);
        due.is("slot", x.item(-1, 0), Due.BAD);
        due.is("nothing ahead of index", x.item(0, 99), Due.NOTHING);
        x.lay(0, 1, 0);
        due.is("kind ahead of index", x.item(0, 99), Due.KIND);
        x.lay(0, 3, 0);
        due.is("a number", x.item(0, 0), Due.KIND);
        x.lay(0, 0, 0);
        due.is("nothing again", x.item(0, 0), Due.NOTHING);
    }

    private static void rests() {
        TwinTables x = Due.withTables(1);
        x.figure(0, 1, 5, 5, -1);
        x.sheet(0, 0, 2);
        due.is("slot", x.rest(5, 1), Due.BAD);
        due.is("slot", x.rest(-1, 0), Due.BAD);
        due.is("nothing ahead of no", x.rest(0, 0), Due.NOTHING);
        x.lay(0, 1, 0);
        due.is("kind ahead of no", x.rest(0, 0), Due.KIND);
        x.lay(0, 2, 0);
        due.is("a sheet", x.rest(0, 1), Due.KIND);
        x.lay(0, 3, 17);
        due.is("no", x.rest(0, 0), Due.NO);
        due.is("rest", x.rest(0, 5), 2);
        due.is("rest", x.rest(0, -5), 2);
        x.lay(0, 3, -17);
        due.is("rest", x.rest(0, 5), -2);
        x.lay(0, 3, Integer.MIN_VALUE);
        due.is("rest", x.rest(0, -1), 0);
        due.is("rest", x.rest(0, Integer.MIN_VALUE), 0);
    }

    private static void randomCopies(Random random) {
        TwinTables x = new TwinTables();
        int[][] rows = new int[4][];
        for (int s = 0; s < 4; s++) {
            rows[s] = new int[random.nextInt(25)];
            x.sheet(s, 0, rows[s].length);
            for (int k = 0; k < rows[s].length; k++) x.mark(s, k, rows[s][k] = random.nextInt());
            for (int k = 0; k < rows[s].length; k++) x.mark(s, k, rows[s][k] = random.nextInt(199999) - 99999);
        }
        for (int round = 0; round < 40; round++) {
            int from = random.nextInt(4);
            int to = random.nextInt(4);
            int place = random.nextInt(26) - 1;
            int at = random.nextInt(26) - 1;
            int many = random.nextInt(14) - 1;
            boolean is = place >= 0 && at >= 0 && many >= 0 && place + many <= rows[from].length && at + many <= rows[to].length;
            due.is("copy", x.copy(from, place, to, at, many), is ? many : Due.INDEX);
            if (!is) continue;
            int[] before = rows[from].clone();
            for (int k = 0; k < many; k++) rows[to][at + k] = before[place + k];
        }
        for (int s = 0; s < 4; s++) {
            for (int k = 0; k < rows[s].length; k++) due.is("item", at(x, s, k), rows[s][k]);
        }
    }
}
