import java.util.Random;

/** Promises 19 to 21: choose, story, clear. */
public final class StoriesTest {
    private static final Due due = new Due();

    public static void main(String[] args) {
        choosing();
        one();
        for (int seed = 0; seed < 120; seed++) everyStory(new Random(seed));
        due.end();
    }

    private static void choosing() {
        TwinTables x = Due.withTables(1);
        for (int k = 0; k < 8; k++) x.figure(0, 1, 7700, 10, -1);
        due.is("choose", x.choose(8), Due.BAD);
        due.is("choose", x.choose(-1), Due.BAD);
        for (int k = 0; k < 6; k++) due.is("choose", x.choose(7 - k), k + 1);
        due.is("choose told", x.choose(7), Due.NO);
        due.is("choose bad", x.choose(9), Due.BAD);
        due.is("choose full", x.choose(0), Due.FULL);
        due.is("told", x.count(5), 6);
        due.is("u", x.story(-1, 0), Due.BAD);
        due.is("u", x.story(7, 0), Due.BAD);
        due.is("what", x.story(0, -1), Due.BAD);
        due.is("what", x.story(0, 8), Due.BAD);
        due.is("what", x.story(0, 7), 1);
        due.is("u", x.story(6, 0), 6);
        due.is("clear", x.clear(), 6);
        due.is("clear", x.clear(), 0);
        due.is("empty", x.story(0, 0), 0);
        due.is("empty", x.story(6, 1), 0);
        due.is("empty", x.story(0, 2), Due.BAD);
        due.is("again", x.choose(7), 1);
    }

    private static void one() {
        TwinTables x = Due.withTables(1);
        x.figure(0, 7, 1000, 10, -1);
        x.figure(0, 7, 3002, 10, 0);
        x.choose(1);
        due.is("made and fitted cost the same: the lesser", x.story(1, 2), 6);
        due.is("as it fits, not as it is", x.told(1, 1), 7);
        due.is("none without unkind ones", x.story(0, 0), Due.NONE);
        due.is("none without unkind ones", x.story(0, 2), Due.NONE);
        due.is("bad ahead of none", x.story(0, 3), Due.BAD);
        x.choose(0);
        due.is("two are", x.story(1, 1), Due.NONE);
        due.is("two are", x.story(2, 1), 2);
        due.is("prices", x.story(2, 0), 40);
    }

    /** All of 7 to the power of 6 stories, by what turns and told say of each FIGURE. */
    private static void everyStory(Random random) {
        TwinTables x = Due.withTables(3);
        if (random.nextBoolean()) Due.text(x, "working 1 f+" + random.nextInt(60));
        if (random.nextBoolean()) Due.text(x, "working 2 77" + (10 + random.nextInt(90)));
        for (int f = 0; f < 10; f++) {
            int from = f == 0 ? -1 : random.nextInt(f);
            if (from >= 0 && x.told(from, 0) > f / 3 % 3) from = -1;
            int value = from >= 0 && random.nextBoolean() ? x.told(from, 2) + random.nextInt(2) * 10 : 6000 + random.nextInt(3000);
            x.figure(f / 3 > 2 ? 2 : f / 3, 1, value, 5 + random.nextInt(400), from);
        }
        int many = random.nextInt(7);
        int[] told = new int[many];
        for (int k = 0; k < many; k++) {
            do told[k] = random.nextInt(10); while (x.choose(told[k]) < 0);
        }
        int[][] price = new int[many][8];
        for (int k = 0; k < many; k++) {
            int was = x.told(told[k], 1);
            for (int kind = 1; kind < 8; kind++) {
                x.turns(told[k], kind);
                price[k][kind] = x.told(told[k], 5) == 1 ? x.told(told[k], 6) : -1;
            }
            x.turns(told[k], was);
        }
        for (int u = 0; u <= 6; u++) {
            int[] best = new int[many];
            int[] least = {Integer.MAX_VALUE, 0};
            search(price, new int[many], 0, u, best, least);
            boolean is = least[0] != Integer.MAX_VALUE;
            due.is("prices", x.story(u, 0), is ? least[0] : Due.NONE);
            due.is("unkind", x.story(u, 1), is ? least[1] : Due.NONE);
            for (int k = 0; k < many; k++) due.is("kind", x.story(u, 2 + k), is ? best[k] : Due.NONE);
        }
    }

    private static void search(int[][] price, int[] kinds, int at, int u, int[] best, int[] least) {
        if (at < kinds.length) {
            for (int kind = 1; kind < 8; kind++) {
                kinds[at] = kind;
                if (price[at][kind] >= 0) search(price, kinds, at + 1, u, best, least);
            }
            return;
        }
        int sum = 0;
        int unkind = 0;
        for (int k = 0; k < kinds.length; k++) {
            sum += price[k][kinds[k]];
            if (kinds[k] >= 6) unkind++;
        }
        if (unkind > u || sum > least[0] || sum == least[0] && unkind >= least[1]) return;
        least[0] = sum;
        least[1] = unkind;
        System.arraycopy(kinds, 0, best, 0, kinds.length);
    }
}
