import java.util.Random;

/** Promises 33, 34, 43, 44: seed, share, tell, check. */
public final class LandsTest {
    private static final Due due = new Due();
    private static int z;

    public static void main(String[] args) {
        seeds();
        shares();
        wrongShares();
        checks();
        imageCounts();
        checksAtTheEdges();
        for (int seed = 0; seed < 400; seed++) randomLands(new Random(seed));
        due.end();
    }

    private static void seeds() {
        TwinTables x = new TwinTables();
        due.is("seed", x.seed(-5), 1);
        due.is("seed", x.seed(Integer.MIN_VALUE), -5);
        due.is("seed", x.seed(Due.BAD), Integer.MIN_VALUE);
        due.is("z", x.count(11), Due.BAD);
    }

    /** The VALUES of a LAND, drawn on from z. */
    private static int[] land(int tables, int base, int spread) {
        int[] values = new int[tables];
        for (int k = 0; k < tables; k++) {
            z = z * 1103515245 + 12345;
            int draw = (int) ((z & 0xffffffffL) / 256);
            values[k] = Math.max(0, Math.min(9999, base - spread + draw % (2 * spread + 1)));
        }
        return values;
    }

    private static boolean hasRun(int[] values, int r, int p) {
        int cut = (int) Math.pow(10, 4 - p);
        for (int a = 0; a + r <= values.length; a++) {
            boolean all = true;
            for (int b = a; b < a + r; b++) all &= values[b] / cut == values[a] / cut;
            if (all) return true;
        }
        return false;
    }

    private static int shareOf(int lands, int tables, int base, int spread, int r, int p) {
        int many = 0;
        for (int k = 0; k < lands; k++) if (hasRun(land(tables, base, spread), r, p)) many++;
        return many;
    }

    private static void shares() {
        TwinTables x = new TwinTables();
        z = 1;
        due.is("share", x.share(20012, 50, 3, 2), shareOf(200, 12, 7700, 200, 3, 2));
        due.is("z goes on", x.count(11), z);
        due.is("share", x.share(20012, 50, 2, 3), shareOf(200, 12, 7700, 200, 2, 3));
        due.is("share", x.share(20002, 999, 2, 3), shareOf(200, 2, 7700, 10, 2, 3));
        due.is("widest", x.share(20005, 1, 2, 1), shareOf(200, 5, 7700, 10000, 2, 1));
        x.base(0);
        due.is("held at 0", x.share(20005, 2, 4, 4), shareOf(200, 5, 0, 5000, 4, 4));
        x.base(9999);
        due.is("held at the most", x.share(20005, 2, 4, 4), shareOf(200, 5, 9999, 5000, 4, 4));
        due.is("more than there are", x.share(20005, 2, 6, 1), shareOf(200, 5, 9999, 5000, 6, 1));
        due.is("z goes on", x.count(11), z);
        Due.text(x, "spread n+y*100");
        due.is("spread for n and the year 0", x.share(20009, 30, 2, 4), shareOf(200, 9, 9999, 30, 2, 4));
        Due.text(x, "spread 0");
        due.is("no spread", x.share(1012, 30, 12, 4), shareOf(10, 12, 9999, 0, 12, 4));
        due.is("z goes on", x.count(11), z);
    }

    private static void wrongShares() {
        TwinTables x = new TwinTables();
        int[] lands = {0, -305, 2, 12, 101, 113, 100, 20000, 20013, 20102, -12, Integer.MIN_VALUE, Integer.MAX_VALUE};
        for (int told : lands) due.is("lands " + told, x.share(told, 5, 2, 1), Due.BAD);
        due.is("n", x.share(102, 0, 2, 1), Due.BAD);
        due.is("n", x.share(102, 1000, 2, 1), Due.BAD);
        due.is("r", x.share(102, 5, 1, 1), Due.BAD);
        due.is("r", x.share(102, 5, 13, 1), Due.BAD);
        due.is("p", x.share(102, 5, 2, 0), Due.BAD);
        due.is("p", x.share(102, 5, 2, 5), Due.BAD);
        due.is("z stays", x.count(11), 1);
    }

    private static void tellAll(TwinTables x, int[] values, int many) {
        for (int k = 0; k < many; k++) due.is("tell", x.tell(values[k]), k + 1);
    }

    private static void checks() {
        TwinTables x = new TwinTables();
        for (int k = 1; k <= 60; k++) due.is("tell", x.tell(k), k);
        due.is("full", x.tell(0), Due.FULL);
        due.is("wait", x.count(9), 60);
        due.is("no image", x.check(2, 5), Due.NO);
        due.is("none wait", x.count(9), 0);
        x.tell(1);
        due.is("bad ahead of no", x.check(13, 5), Due.BAD);
        due.is("none wait", x.count(9), 0);
        x.keep();
        x.tell(1);
        due.is("k", x.check(1, 5), Due.BAD);
        due.is("n", x.check(2, 0), Due.BAD);
        due.is("n", x.check(2, 1000), Due.BAD);
        due.is("none wait", x.count(9), 0);
        for (int k = 2; k <= 12; k++) {
            z = 1;
            int[] values = land(k, 7700, 200);
            tellAll(x, values, k);
            due.is("as told", x.check(k, 50), 0);
            due.is("none told", x.check(k, 50), 1);
            for (int many = 0; many < k; many++) {
                tellAll(x, values, many);
                due.is("one is missing", x.check(k, 50), 1 + many);
                tellAll(x, values, k);
                due.is("still as told", x.check(k, 50), 0);
                for (int m = 0; m < k; m++) x.tell(m == many ? values[m] + 1 : values[m]);
                due.is("one is not", x.check(k, 50), 1 + many);
            }
            tellAll(x, values, k);
            x.tell(0);
            due.is("one too many", x.check(k, 50), 1 + k);
        }
        due.is("z stays", x.count(11), 1);
    }

    /** BASE, z and spread are those of THE IMAGE, whatever is now. */
    private static void imageCounts() {
        TwinTables x = new TwinTables();
        x.seed(99);
        x.base(500);
        Due.text(x, "spread n*3+y");
        x.keep();
        x.seed(7);
        x.base(9000);
        Due.text(x, "spread 1");
        z = 99;
        int[] values = land(5, 500, 60);
        for (int round = 0; round < 2; round++) {
            tellAll(x, values, 5);
            due.is("from the image on", x.check(5, 20), 0);
        }
        due.is("z stays", x.count(11), 7);
        x.back();
        due.is("z of the image", x.count(11), 99);
    }

    private static void checksAtTheEdges() {
        for (int base : new int[] {0, 20, 9980, 9999}) {
            TwinTables x = new TwinTables();
            x.base(base);
            x.keep();
            z = 1;
            tellAll(x, land(12, base, 100), 12);
            due.is("held, base " + base, x.check(12, 100), 0);
        }
    }

    private static void randomLands(Random random) {
        TwinTables x = new TwinTables();
        int base = random.nextInt(10000);
        int spread = random.nextInt(10) == 0 ? 9999 : random.nextInt(300);
        z = random.nextInt();
        x.seed(z);
        x.base(base);
        Due.text(x, "spread " + spread);
        for (int k = 0; k < 10; k++) {
            int lands = 1 + random.nextInt(200);
            int tables = 2 + random.nextInt(11);
            int r = 2 + random.nextInt(4);
            int p = 1 + random.nextInt(4);
            due.is("share", x.share(100 * lands + tables, 1 + random.nextInt(999), r, p), shareOf(lands, tables, base, spread, r, p));
            due.is("z goes on", x.count(11), z);
        }
    }
}
