/** Promises 1 to 7: a new object, table, figure, told, as, turns, base. */
public final class TablesTest {
    private static final Due due = new Due();

    public static void main(String[] args) {
        newObject();
        tables();
        figures();
        told();
        fits();
        kinds();
        base();
        due.end();
    }

    private static void newObject() {
        TwinTables x = new TwinTables();
        for (int what = 0; what <= 10; what++) due.is("new count " + what, x.count(what), 0);
        due.is("new z", x.count(11), 1);
        due.is("new base", x.base(0), 7700);
        due.is("new figure", x.figure(0, 0, 0, 1, -1), Due.BAD);
        due.is("new pillar", x.pillar(), Due.NONE);
        due.is("new next", x.next(255), Due.NONE);
        due.is("new back", x.back(), Due.NO);
        for (int line = 0; line < 6; line++) due.is("new line", x.run(line, 1, 0), 0);
        for (int sheet = 0; sheet < 4; sheet++) due.is("new sheet", x.mark(sheet, 0, 0), Due.NOTHING);
        for (int slot = 0; slot < 5; slot++) due.is("new slot", x.lay(slot, 0, 0), 0);
        for (int one = 0; one < 6; one++) {
            for (int other = 0; other < 6; other++) due.is("new far", x.far(one, other), one == other ? 0 : Due.NONE);
        }
        for (int table = 0; table < 12; table++) due.is("new why", x.why(0, table), Due.NONE);
        due.is("new why 1", x.why(1, -5), Due.NONE);
        due.is("new why 2", x.why(2, 99), Due.NONE);
        due.is("new even", x.even(), 0);
        due.is("new odd", x.odd(), 0);
        due.is("new story", x.story(0, 0), 0);
    }

    private static void tables() {
        TwinTables second = new TwinTables();
        due.is("the first", second.table(5), 0);
        due.is("ahead of the first", second.table(4), Due.NO);
        TwinTables x = new TwinTables();
        due.is("table(-1)", x.table(-1), Due.BAD);
        due.is("table(60)", x.table(60), Due.BAD);
        due.is("table(0)", x.table(0), 0);
        due.is("table(0)", x.table(0), 1);
        due.is("table(58)", x.table(58), 2);
        due.is("table(57)", x.table(57), Due.NO);
        for (int k = 3; k < 12; k++) due.is("table(59)", x.table(59), k);
        due.is("full: bad first", x.table(60), Due.BAD);
        due.is("full: ahead first", x.table(58), Due.NO);
        due.is("full", x.table(59), Due.FULL);
        due.is("count", x.count(0), 12);
    }

    private static void figures() {
        TwinTables x = Due.withTables(3);
        due.is("table", x.figure(3, 0, 0, 1, -1), Due.BAD);
        due.is("table", x.figure(-1, 0, 0, 1, -1), Due.BAD);
        due.is("kind", x.figure(0, -1, 0, 1, -1), Due.BAD);
        due.is("kind", x.figure(0, 8, 0, 1, -1), Due.BAD);
        due.is("value", x.figure(0, 0, -1, 1, -1), Due.BAD);
        due.is("value", x.figure(0, 0, 10000, 1, -1), Due.BAD);
        due.is("pairs", x.figure(0, 0, 0, 0, -1), Due.BAD);
        due.is("pairs", x.figure(0, 0, 0, 1000, -1), Due.BAD);
        due.is("from", x.figure(0, 0, 0, 1, 0), Due.BAD);
        due.is("from", x.figure(0, 0, 0, 1, -2), Due.BAD);
        due.is("least", x.figure(0, 0, 0, 1, -1), 0);
        due.is("most", x.figure(1, 7, 9999, 999, 0), 1);
        due.is("same table", x.figure(1, 1, 5, 5, 1), 2);
        due.is("later table", x.figure(0, 1, 5, 5, 1), Due.BAD);
        due.is("itself", x.figure(2, 1, 5, 5, 3), Due.BAD);
        for (int k = 3; k < 40; k++) due.is("more", x.figure(2, 1, 5, 5, k - 1), k);
        due.is("full: bad first", x.figure(2, 1, 5, 5, 40), Due.BAD);
        due.is("full", x.figure(2, 1, 5, 5, 39), Due.FULL);
        due.is("count", x.count(1), 40);
    }

    private static void told() {
        TwinTables x = Due.withTables(2);
        x.figure(0, 1, 7710, 21, -1);
        x.figure(1, 7, 7712, 250, 0);
        x.line(4, 1);
        int[] first = {0, 1, 7710, 21, Due.NONE, 1, 1, 476, Due.NONE, Due.NONE, 1};
        int[] second = {1, 7, 7712, 250, 0, 1, 22, 40, Due.NONE, 4, 2};
        for (int what = 0; what <= 10; what++) {
            due.is("told 0 " + what, x.told(0, what), first[what]);
            due.is("told 1 " + what, x.told(1, what), second[what]);
        }
        due.is("what", x.told(0, -1), Due.BAD);
        due.is("what", x.told(0, 11), Due.BAD);
        due.is("figure", x.told(2, 0), Due.BAD);
        due.is("figure", x.told(-1, 0), Due.BAD);
        int[] prices = {5, 1, 3, 4, 2, 8, 20, 22};
        for (int kind = 0; kind < 8; kind++) {
            x.turns(1, kind);
            due.is("price of " + kind, x.told(1, 6), prices[kind]);
        }
        int[][] fitted = {{1, 20}, {99, 20}, {100, 21}, {199, 21}, {200, 22}, {999, 29}};
        for (int[] each : fitted) {
            TwinTables y = Due.withTables(1);
            y.figure(0, 7, 5, each[0], -1);
            due.is("price of fitted, of pairs " + each[0], y.told(0, 6), each[1]);
        }
        TwinTables ahead = Due.withTables(1);
        for (int k = 0; k < 4; k++) ahead.figure(0, 1, 5, 5, k - 1);
        Due.text(ahead, "working 0 i*9000+f");
        for (int k = 0; k < 4; k++) due.is("ahead of " + k, ahead.told(k, 8), k * 9000 + (k > 0 ? 5 : 0));
        Due.text(x, "working 1 i*1000+n");
        x.figure(0, 1, 1, 7, -1);
        x.figure(1, 1, 1, 7, -1);
        due.is("first of its table", x.told(1, 8), 250);
        due.is("no working", x.told(2, 8), Due.NONE);
        due.is("second of its table", x.told(3, 8), 1007);
        x.figure(1, 1, 1, 1, -1);
        due.is("spread of one pair", x.told(4, 7), 10000);
        x.figure(1, 1, 1, 999, -1);
        due.is("spread of most pairs", x.told(5, 7), 10);
    }

    /** Whether a FIGURE of a VALUE, FROM one of 7700 (or from none), fits for each KIND, as bits. */
    private static int fitting(String working, int value, boolean from) {
        TwinTables x = Due.withTables(1);
        if (working != null) Due.text(x, working);
        x.figure(0, 0, 7700, 1, -1);
        x.figure(0, 0, value, 100, from ? 0 : -1);
        int bits = 0;
        for (int kind = 0; kind < 8; kind++) {
            x.turns(1, kind);
            if (x.told(1, 5) == 1) bits |= 1 << kind;
        }
        return bits;
    }

    private static void fits() {
        int always = 1 | 1 << 6;
        due.is("measured, edge", fitting(null, 7800, false), always | 2);
        due.is("measured, edge", fitting(null, 7600, false), always | 2);
        due.is("measured, past", fitting(null, 7801, false), always);
        due.is("measured, past", fitting(null, 7599, false), always);
        due.is("worked, rounded", fitting("working 0 5000", 5000, false), always | 4 | 8);
        due.is("not worked", fitting("working 0 5000", 5001, false), always | 8);
        due.is("not worked", fitting("working 0 5000", 4999, false), always | 8);
        due.is("rounded, edge", fitting("working 0 5000", 5050, false), always | 8);
        due.is("rounded, edge", fitting("working 0 5000", 4950, false), always | 8);
        due.is("rounded, past", fitting("working 0 5000", 5051, false), always);
        due.is("rounded, past", fitting("working 0 5000", 4949, false), always);
        due.is("working of another table", fitting("working 1 5000", 5000, false), always);
        due.is("worked far below", fitting("working 0 0-8192*8192*32", 0, false), always);
        due.is("carried, fitted", fitting(null, 7700, true), always | 2 | 16 | 128);
        due.is("slipped", fitting(null, 7701, true), always | 2 | 32);
        due.is("slipped, even", fitting(null, 7702, true), always | 2 | 32 | 128);
        due.is("slipped in front", fitting(null, 700, true), always | 32 | 128);
        due.is("slipped, 0 ahead", fitting(null, 9700, true), always | 32 | 128);
        due.is("two digits", fitting(null, 6600, true), always | 128);
        due.is("odd", fitting(null, 6601, true), always);
        due.is("a carry is two digits", fitting(null, 7699, true), always | 2);
        TwinTables x = Due.withTables(1);
        x.figure(0, 0, 0, 100, -1);
        x.figure(0, 5, 8000, 100, 0);
        x.figure(0, 7, 8000, 100, 0);
        x.figure(0, 4, 0, 100, 0);
        x.figure(0, 4, 0, 100, -1);
        int[] want = {1, 1, 1, 1, 0};
        for (int k = 0; k < 5; k++) due.is("from one of 0, " + k, x.told(k, 5), want[k]);
    }

    private static void kinds() {
        TwinTables x = Due.withTables(1);
        int[] over = {1, 3, 5, 13, 17, 33, 65, 193};
        for (int kind = 0; kind < 8; kind++) x.figure(0, kind, 100 + kind, 1, -1);
        for (int kind = 0; kind < 8; kind++) {
            for (int other = 0; other < 8; other++) {
                boolean is = (over[kind] >> other & 1) == 1;
                due.is("as " + kind + " " + other, x.as(kind, other), is ? 100 + kind : Due.KIND);
            }
        }
        due.is("as", x.as(8, 0), Due.BAD);
        due.is("as", x.as(-1, 0), Due.BAD);
        due.is("as", x.as(0, 8), Due.BAD);
        due.is("as", x.as(0, -1), Due.BAD);
        due.is("turns", x.turns(0, 8), Due.BAD);
        due.is("turns", x.turns(0, -1), Due.BAD);
        due.is("turns", x.turns(8, 0), Due.BAD);
        due.is("turns", x.turns(-1, 0), Due.BAD);
        due.is("turns", x.turns(3, 7), 3);
        due.is("turned", x.as(3, 6), 103);
        due.is("turned", x.as(3, 2), Due.KIND);
        due.is("turns", x.turns(3, 0), 7);
        due.is("unkind", x.count(3), 2);
    }

    private static void base() {
        TwinTables x = Due.withTables(1);
        x.figure(0, 1, 9999, 999, -1);
        due.is("fits", x.told(0, 5), 0);
        due.is("base", x.base(-1), Due.BAD);
        due.is("base", x.base(10000), Due.BAD);
        due.is("base", x.base(9999), 7700);
        due.is("fits", x.told(0, 5), 1);
        due.is("base", x.base(0), 9999);
        due.is("fits", x.told(0, 5), 0);
        due.is("base", x.base(9989), 0);
        due.is("edge", x.told(0, 5), 1);
        due.is("base", x.base(9988), 9989);
        due.is("past", x.told(0, 5), 0);
    }
}
