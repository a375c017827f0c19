import java.util.Random;

/** Promises 26 to 32: leaner, falls, left, pillar, source, next, heard. */
public final class LeaningTest {
    private static final Due due = new Due();

    public static void main(String[] args) {
        leaners();
        pillar();
        sources();
        for (int seed = 0; seed < 2000; seed++) randomLeaners(new Random(seed));
        for (int seed = 0; seed < 2000; seed++) randomSources(new Random(seed));
        due.end();
    }

    private static void leaners() {
        TwinTables x = Due.withTables(2);
        due.is("tables", x.leaner(4, 0, 1), Due.BAD);
        due.is("tables", x.leaner(-1, 0, 1), Due.BAD);
        due.is("itself", x.leaner(1, 1, 1), Due.BAD);
        due.is("leaners", x.leaner(1, -2147483648, 1), Due.BAD);
        due.is("needs", x.leaner(1, 0, -1), Due.BAD);
        due.is("needs", x.leaner(1, 0, 29), Due.BAD);
        due.is("leaner", x.leaner(3, 0, 2), 0);
        due.is("leaner", x.leaner(2, 1, 1), 1);
        due.is("leaner", x.leaner(0, 0, 0), 2);
        due.is("leaner", x.leaner(0, 0, 28), 3);
        due.is("leaner", x.leaner(0, 7, 3), 4);
        due.is("falls", x.falls(0), 8);
        due.is("falls", x.falls(1), 1 | 8 | 16);
        due.is("falls", x.falls(2), 1 | 2 | 8 | 16);
        due.is("falls of tables that are not there", x.falls(4092), 8);
        due.is("left", x.left(0), 1 | 2 | 4 | 16);
        due.is("left", x.left(2), 4);
        due.is("left", x.left(4095), 4);
        due.is("falls", x.falls(-1), Due.BAD);
        due.is("falls", x.falls(4096), Due.BAD);
        due.is("left", x.left(-1), Due.BAD);
        due.is("left", x.left(4096), Due.BAD);
        for (int k = 5; k < 16; k++) due.is("leaner", x.leaner(0, 0, 0), k);
        due.is("bad ahead of full", x.leaner(4, 0, 0), Due.BAD);
        due.is("full", x.leaner(1, 65535, 0), Due.FULL);
        due.is("all left", x.left(0), 65535 & ~8);
        due.is("count", x.count(7), 16);
    }

    private static void pillar() {
        TwinTables x = new TwinTables();
        x.leaner(0, 0, 1);
        due.is("no tables", x.pillar(), Due.NONE);
        x.table(0);
        x.table(0);
        x.table(0);
        due.is("of several the least", x.pillar(), 0);
        x.leaner(2, 0, 1);
        due.is("one", x.pillar(), 1);
        x.leaner(4, 0, 1);
        due.is("of several the least", x.pillar(), 1);
        x.leaner(0, 4, 1);
        due.is("what leans on what leans", x.pillar(), 2);
    }

    private static void sources() {
        TwinTables x = new TwinTables();
        due.is("next", x.next(1), Due.NONE);
        due.is("bad ahead of none", x.next(0), Due.BAD);
        due.is("heard", x.heard(1, 0, 0), Due.BAD);
        due.is("source", x.source(-1), Due.BAD);
        due.is("source", x.source(65536), Due.BAD);
        due.is("source", x.source(0), 0);
        due.is("all could be left", x.next(255), 0);
        due.is("source", x.source(0b11_10_01_00_11_10_01_00), 1);
        due.is("source", x.source(0b01_01_01_01_00_00_00_00), 2);
        due.is("source", x.source(65535), 3);
        due.is("next", x.next(255), 1);
        due.is("next", x.next(0b00010001), 2);
        due.is("next", x.next(0b00110011), 1);
        due.is("next", x.next(1), 0);
        due.is("next", x.next(-1), Due.BAD);
        due.is("next", x.next(256), Due.BAD);
        due.is("heard", x.heard(255, 1, 0), 0b00010001);
        due.is("heard", x.heard(255, 1, 3), 0b10001000);
        due.is("heard", x.heard(0b11110000, 1, 3), 0b10000000);
        due.is("heard", x.heard(0, 1, 3), 0);
        due.is("tales", x.heard(-1, 1, 3), Due.BAD);
        due.is("tales", x.heard(256, 1, 3), Due.BAD);
        due.is("source", x.heard(1, 4, 3), Due.BAD);
        due.is("source", x.heard(1, -1, 3), Due.BAD);
        due.is("answer", x.heard(1, 1, 4), Due.BAD);
        due.is("answer", x.heard(1, 1, -1), Due.BAD);
        for (int k = 4; k < 8; k++) due.is("source", x.source(0), k);
        due.is("bad ahead of full", x.source(65536), Due.BAD);
        due.is("full", x.source(5), Due.FULL);
        due.is("count", x.count(8), 8);
    }

    private static void randomLeaners(Random random) {
        int tables = 1 + random.nextInt(12);
        TwinTables x = Due.withTables(tables);
        int many = random.nextInt(17);
        int[] onTables = new int[16];
        int[] onLeaners = new int[16];
        int[] needs = new int[16];
        for (int k = 0; k < many; k++) {
            onTables[k] = random.nextInt(1 << tables) & random.nextInt(1 << tables);
            onLeaners[k] = random.nextInt(1 << k) & random.nextInt(1 << k);
            needs[k] = random.nextInt(1 + Integer.bitCount(onTables[k]) + Integer.bitCount(onLeaners[k]));
            due.is("leaner", x.leaner(onTables[k], onLeaners[k], needs[k]), k);
        }
        int best = 0;
        int most = -1;
        for (int t = 0; t < tables; t++) {
            int fallen = Integer.bitCount(fall(many, onTables, onLeaners, needs, 1 << t));
            if (fallen > most) best = t;
            most = Math.max(most, fallen);
        }
        due.is("pillar", x.pillar(), best);
        for (int k = 0; k < 30; k++) {
            int set = random.nextInt(4096);
            int fallen = fall(many, onTables, onLeaners, needs, set);
            due.is("falls", x.falls(set), fallen);
            due.is("left", x.left(set), (1 << many) - 1 - fallen);
        }
    }

    private static int fall(int many, int[] onTables, int[] onLeaners, int[] needs, int set) {
        boolean[] down = new boolean[16];
        int bits = 0;
        for (int k = 0; k < many; k++) {
            int stand = 0;
            for (int t = 0; t < 12; t++) if ((onTables[k] >> t & 1) == 1 && (set >> t & 1) == 0) stand++;
            for (int l = 0; l < k; l++) if ((onLeaners[k] >> l & 1) == 1 && !down[l]) stand++;
            down[k] = stand < needs[k];
            if (down[k]) bits += 1 << k;
        }
        return bits;
    }

    private static void randomSources(Random random) {
        TwinTables x = new TwinTables();
        int many = 1 + random.nextInt(8);
        int[] tells = new int[many];
        for (int k = 0; k < many; k++) {
            tells[k] = random.nextInt(65536) & (random.nextBoolean() ? 0x5555 : 0xffff);
            x.source(tells[k]);
        }
        int tales = 1 + random.nextInt(255);
        int best = 0;
        int fewest = 9;
        for (int k = 0; k < many; k++) {
            int[] left = new int[4];
            int[] bits = new int[4];
            int digits = tells[k];
            for (int tale = 0; tale < 8; tale++) {
                if ((tales >> tale & 1) == 1) {
                    left[digits % 4]++;
                    bits[digits % 4] += 1 << tale;
                }
                digits /= 4;
            }
            int most = Math.max(Math.max(left[0], left[1]), Math.max(left[2], left[3]));
            if (most < fewest) best = k;
            fewest = Math.min(fewest, most);
            for (int answer = 0; answer < 4; answer++) due.is("heard", x.heard(tales, k, answer), bits[answer]);
        }
        due.is("next", x.next(tales), best);
    }
}
