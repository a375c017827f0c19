import java.util.Random;

/** Promises 13 to 18: line, run, soon, even, digit, odd. */
public final class AlikeTest {
    private static final Due due = new Due();

    public static void main(String[] args) {
        lines();
        runs();
        soon();
        digits();
        for (int seed = 0; seed < 3000; seed++) randomLines(new Random(seed));
        due.end();
    }

    private static void lines() {
        TwinTables x = Due.withTables(12);
        for (int table = 0; table < 12; table++) {
            x.figure(table, 1, 7000, 10, -1);
            x.figure(table, 1, 7000, 10, -1);
        }
        due.is("line", x.line(-1, 0), Due.BAD);
        due.is("line", x.line(6, 0), Due.BAD);
        due.is("figure", x.line(0, 24), Due.BAD);
        due.is("figure", x.line(0, -1), Due.BAD);
        due.is("told", x.told(0, 9), Due.NONE);
        for (int table = 0; table < 12; table++) due.is("line", x.line(5, 2 * table), table + 1);
        due.is("same table", x.line(5, 23), Due.NO);
        due.is("in it", x.line(5, 22), Due.NO);
        due.is("in another", x.line(0, 22), Due.NO);
        due.is("another", x.line(0, 23), 1);
        due.is("earlier", x.line(0, 21), Due.NO);
        due.is("told", x.told(22, 9), 5);
        due.is("told", x.told(23, 9), 0);
        due.is("run", x.run(5, 4, 0), 12);
        TwinTables y = new TwinTables();
        y.table(5);
        y.table(5);
        y.figure(0, 1, 1, 1, -1);
        y.figure(1, 1, 1, 1, -1);
        due.is("a later table of the same year", y.line(0, 0), 1);
        due.is("a later table of the same year", y.line(0, 1), 2);
        due.is("soon", y.soon(2, 4), 5);
    }

    private static TwinTables withLine(int... values) {
        TwinTables x = Due.withTables(values.length);
        for (int k = 0; k < values.length; k++) {
            x.figure(k, 1, values[k], 100, -1);
            x.line(2, k);
        }
        return x;
    }

    private static void runs() {
        TwinTables x = withLine(7710, 7711, 7720, 7721, 7800, 6999, 7999);
        int[][] want = {{5, 0, 1000000000}, {4, 0, 201 * 201 * 201}, {2, 0, 201}, {1, 0, 1}};
        for (int p = 1; p <= 4; p++) {
            for (int what = 0; what < 3; what++) due.is("run " + p + " " + what, x.run(2, p, what), want[p - 1][what]);
        }
        due.is("the first of several", withLine(1, 20, 21, 30, 31).run(2, 3, 1), 1);
        due.is("the longest of several", withLine(10, 11, 30, 31, 32, 9).run(2, 3, 1), 2);
        due.is("values below 10 are alike", withLine(1, 2).run(2, 3, 0), 2);
        due.is("line", x.run(-1, 1, 0), Due.BAD);
        due.is("line", x.run(6, 1, 0), Due.BAD);
        due.is("p", x.run(0, 0, 0), Due.BAD);
        due.is("p", x.run(0, 5, 0), Due.BAD);
        due.is("what", x.run(0, 1, -1), Due.BAD);
        due.is("what", x.run(0, 1, 3), Due.BAD);
        due.is("empty", x.run(0, 1, 0), 0);
        due.is("empty", x.run(0, 1, 1), Due.NONE);
        due.is("empty", x.run(0, 1, 2), 1);
        TwinTables odds = withLine(1, 1, 1, 1);
        Due.text(odds, "spread (y>1)*((y=2)*9+(y=3)*4999+(y=4)*50)");
        due.is("19 * 9999 * 101", odds.run(2, 4, 2), 19 * 9999 * 101);
        Due.text(odds, "spread 0");
        due.is("no spread", odds.run(2, 4, 2), 1);
        Due.text(odds, "spread 499+(y=4)");
        due.is("999 * 999 * 1001", odds.run(2, 4, 2), 999 * 999 * 1001);
        Due.text(odds, "spread 500");
        due.is("1001 to the third", odds.run(2, 4, 2), 1000000000);
        TwinTables wide = Due.withTables(12);
        for (int k = 0; k < 12; k++) {
            wide.figure(k, 1, 1, 1, -1);
            wide.line(0, k);
        }
        due.is("at most", wide.run(0, 4, 2), 1000000000);
    }

    private static void soon() {
        TwinTables x = withLine(7710, 7711, 7720, 7721, 7722);
        due.is("soon", x.soon(2, 3), 2);
        due.is("soon", x.soon(3, 3), 5);
        due.is("soon", x.soon(4, 3), Due.NONE);
        due.is("soon", x.soon(4, 2), 4);
        due.is("soon", x.soon(12, 1), Due.NONE);
        due.is("k", x.soon(1, 1), Due.BAD);
        due.is("k", x.soon(13, 1), Due.BAD);
        due.is("p", x.soon(2, 0), Due.BAD);
        due.is("p", x.soon(2, 5), Due.BAD);
        due.is("no lines", new TwinTables().soon(2, 1), Due.NONE);
        x.figure(1, 1, 5, 5, -1);
        x.figure(2, 1, 5, 5, -1);
        x.line(5, 5);
        x.line(5, 6);
        due.is("another line is later", x.soon(2, 3), 2);
        due.is("another line is the only one", x.soon(2, 4), 3);
    }

    private static void digits() {
        TwinTables x = Due.withTables(1);
        for (int value : new int[] {0, 10, 9990, 1, 9999, 7}) x.figure(0, 1, value, 9, -1);
        int[] want = {3, 1, 0, 0, 0, 0, 0, 1, 0, 1};
        int sum = 0;
        for (int d = 0; d < 10; d++) {
            due.is("digit " + d, x.digit(d), want[d]);
            sum += (10 * want[d] - 6) * (10 * want[d] - 6);
        }
        due.is("digit", x.digit(-1), Due.BAD);
        due.is("digit", x.digit(10), Due.BAD);
        due.is("even", x.even(), sum);
        due.is("odd", x.odd(), 1);
        TwinTables all = Due.withTables(1);
        for (int k = 0; k < 40; k++) all.figure(0, 1, k, 9, -1);
        due.is("quite even", all.even(), 0);
        TwinTables one = Due.withTables(1);
        for (int k = 0; k < 40; k++) one.figure(0, 1, 3, 9, -1);
        due.is("quite uneven", one.even(), 360 * 360 + 9 * 1600);
        due.is("odd", one.odd(), 8);
    }

    /** RUNS and SOON by looking at every row of every LINE. */
    private static void randomLines(Random random) {
        TwinTables x = new TwinTables();
        int year = random.nextInt(10);
        int[] years = new int[12];
        for (int k = 0; k < 12; k++) {
            years[k] = year;
            x.table(year);
            year += random.nextInt(4);
        }
        int[][] line = new int[6][12];
        int[] length = new int[6];
        int[] table = new int[40];
        int[] value = new int[40];
        int[] last = {-1, -1, -1, -1, -1, -1};
        for (int f = 0; f < 40; f++) {
            table[f] = random.nextInt(12);
            value[f] = 7700 + random.nextInt(random.nextBoolean() ? 3 : 150);
            x.figure(table[f], 1, value[f], 1 + random.nextInt(99), -1);
        }
        for (int k = 0; k < 120; k++) {
            int f = random.nextInt(40);
            int l = random.nextInt(6);
            if (x.line(l, f) > 0) {
                due.is("later", table[f] > last[l] ? 1 : 0, 1);
                last[l] = table[f];
                line[l][length[l]++] = f;
            }
        }
        int p = 1 + random.nextInt(4);
        int cut = (int) Math.pow(10, 4 - p);
        int[] soon = new int[13];
        for (int k = 0; k < 13; k++) soon[k] = Due.NONE;
        for (int l = 0; l < 6; l++) {
            int most = 0;
            int first = Due.NONE;
            long odds = 1;
            for (int a = 0; a < length[l]; a++) {
                long here = 1;
                for (int b = a; b < length[l] && value[line[l][b]] / cut == value[line[l][a]] / cut; b++) {
                    if (b > a) here = Math.min(1000000000L, here * (2L * x.told(line[l][b], 7) + 1));
                    if (b - a + 1 > most) {
                        most = b - a + 1;
                        first = line[l][a];
                        odds = here;
                    }
                    int k = b - a + 1;
                    int at = years[table[line[l][b]]];
                    if (soon[k] == Due.NONE || at < soon[k]) soon[k] = at;
                }
            }
            due.is("how many", x.run(l, p, 0), most);
            due.is("its first", x.run(l, p, 1), first);
            due.is("its odds", x.run(l, p, 2), odds);
        }
        for (int k = 2; k <= 12; k++) due.is("soon " + k, x.soon(k, p), soon[k]);
    }
}
