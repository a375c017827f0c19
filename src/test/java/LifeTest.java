import java.util.Random;

/** Promises 22 to 25: road, far, diary, could. */
public final class LifeTest {
    private static final Due due = new Due();

    public static void main(String[] args) {
        roads();
        diary();
        visits();
        for (int seed = 0; seed < 2000; seed++) randomLife(new Random(seed));
        due.end();
    }

    private static void roads() {
        TwinTables x = new TwinTables();
        due.is("road", x.road(-1, 0, 1), Due.BAD);
        due.is("road", x.road(0, 6, 1), Due.BAD);
        due.is("road", x.road(3, 3, 1), Due.BAD);
        due.is("road", x.road(0, 1, -1), Due.BAD);
        due.is("road", x.road(0, 1, 31), Due.BAD);
        due.is("road", x.road(0, 5, 30), 0);
        due.is("both ways", x.road(5, 0, 7), 30);
        due.is("both ways", x.road(0, 5, 0), 7);
        due.is("none", x.far(0, 5), Due.NONE);
        for (int k = 0; k < 5; k++) x.road(5 - k, 4 - k, 30);
        due.is("the longest way", x.far(0, 5), 150);
        due.is("the longest way", x.far(5, 0), 150);
        x.road(0, 5, 30);
        due.is("straight", x.far(0, 5), 30);
        due.is("around", x.far(1, 4), 90);
        x.road(2, 0, 1);
        due.is("around", x.far(1, 2), 30);
        due.is("itself", x.far(4, 4), 0);
        due.is("far", x.far(6, 0), Due.BAD);
        due.is("far", x.far(0, -1), Due.BAD);
    }

    private static void diary() {
        TwinTables x = new TwinTables();
        due.is("day", x.diary(-1, 0), Due.BAD);
        due.is("day", x.diary(10000, 0), Due.BAD);
        due.is("place", x.diary(0, 6), Due.BAD);
        due.is("place", x.diary(0, -1), Due.BAD);
        due.is("diary", x.diary(9999, 5), 1);
        due.is("diary", x.diary(0, 0), 2);
        due.is("that day", x.diary(0, 0), Due.NO);
        for (int k = 3; k <= 20; k++) due.is("diary", x.diary(k, 1), k);
        due.is("no ahead of full", x.diary(9999, 1), Due.NO);
        due.is("full", x.diary(100, 1), Due.FULL);
        due.is("bad ahead of full", x.diary(100, 6), Due.BAD);
        due.is("count", x.count(6), 20);
    }

    private static void visits() {
        TwinTables x = new TwinTables();
        due.is("place", x.could(6, 0, 1), Due.BAD);
        due.is("place", x.could(-1, 0, 1), Due.BAD);
        due.is("day", x.could(0, -1, 1), Due.BAD);
        due.is("day", x.could(0, 10000, 1), Due.BAD);
        due.is("n", x.could(0, 0, 0), Due.BAD);
        due.is("n", x.could(0, 0, 100), Due.BAD);
        due.is("no diary", x.could(0, 9999, 99), 1);
        x.road(0, 1, 3);
        x.diary(100, 0);
        due.is("from an entry, just", x.could(1, 103, 99), 1);
        due.is("from an entry, too soon", x.could(1, 102, 1), 0);
        due.is("to an entry, just", x.could(1, 90, 8), 1);
        due.is("to an entry, too late", x.could(1, 90, 9), 0);
        due.is("on the day, elsewhere", x.could(1, 100, 1), 0);
        due.is("on the day", x.could(0, 100, 1), 1);
        due.is("over the day", x.could(0, 90, 20), 1);
        due.is("over the day, elsewhere", x.could(1, 90, 20), 0);
        due.is("no road behind", x.could(2, 200, 1), 0);
        due.is("no road ahead", x.could(2, 0, 1), 0);
        x.diary(110, 1);
        due.is("between", x.could(0, 101, 7), 1);
        due.is("between, too late", x.could(0, 101, 8), 0);
        due.is("the next entry counts, not the later", x.could(0, 95, 10), 1);
        due.is("the latest entry counts", x.could(1, 111, 1), 1);
        due.is("over an entry of its own and up to another", x.could(0, 98, 9), 1);
        due.is("over an entry of its own and on the other", x.could(0, 98, 13), 0);
    }

    private static void randomLife(Random random) {
        TwinTables x = new TwinTables();
        int[][] far = new int[6][6];
        for (int a = 0; a < 6; a++) for (int b = 0; b < 6; b++) far[a][b] = a == b ? 0 : 99999;
        int roads = random.nextInt(12);
        int[][] road = new int[6][6];
        for (int k = 0; k < roads; k++) {
            int a = random.nextInt(6);
            int b = random.nextInt(6);
            int n = random.nextInt(12);
            if (x.road(a, b, n) < 0) continue;
            road[a][b] = road[b][a] = n;
        }
        for (int a = 0; a < 6; a++) for (int b = 0; b < 6; b++) if (road[a][b] > 0) far[a][b] = road[a][b];
        for (int m = 0; m < 6; m++) for (int a = 0; a < 6; a++) for (int b = 0; b < 6; b++) far[a][b] = Math.min(far[a][b], far[a][m] + far[m][b]);
        for (int a = 0; a < 6; a++) for (int b = 0; b < 6; b++) due.is("far", x.far(a, b), far[a][b] == 99999 ? Due.NONE : far[a][b]);
        int[] at = new int[400];
        java.util.Arrays.fill(at, -1);
        int entries = random.nextInt(8);
        for (int k = 0; k < entries; k++) {
            int day = random.nextInt(60);
            int place = random.nextInt(6);
            if (x.diary(day, place) > 0) at[day] = place;
        }
        for (int k = 0; k < 60; k++) {
            int place = random.nextInt(6);
            int day = random.nextInt(70);
            int n = 1 + random.nextInt(30);
            boolean could = true;
            for (int d = day; d < day + n; d++) if (at[d] >= 0 && at[d] != place) could = false;
            int d = day;
            while (d >= 0 && at[d] < 0) d--;
            if (d >= 0 && day - d < far[at[d]][place]) could = false;
            d = day + n;
            while (d < 400 && at[d] < 0) d++;
            if (d < 400 && d - (day + n - 1) < far[place][at[d]]) could = false;
            due.is("could", x.could(place, day, n), could ? 1 : 0);
        }
    }
}
