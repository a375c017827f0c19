import java.util.ArrayList;
import java.util.List;
import java.util.Random;

/** Any call of the class by its number, calls made at random, and all that can be asked of an object. */
final class Caller {
    static final String[] NAMES = {"table", "figure", "told", "as", "turns", "base", "feed", "trim", "text", "of", "why", "line",
        "run", "soon", "even", "digit", "odd", "choose", "story", "clear", "road", "far", "diary", "could", "leaner", "falls",
        "left", "pillar", "source", "next", "heard", "seed", "share", "sheet", "mark", "print", "copy", "lay", "ask", "item",
        "rest", "tell", "check", "keep", "back", "count"};
    private static final String[] TEXTS = {"odd c>1", "odd d", "odd a-c", "spread n*y", "spread 100", "spread y-n/2", "working 0 f",
        "working 1 n*i+f", "working 2 7700", "working 3 f/0", "working 11 9999*9999*9999", "odd (c", "working 12 n", "spread 5 5"};
    private static final int[] WILD = {Integer.MIN_VALUE, Integer.MAX_VALUE, -1, 0, 1, Due.NONE, Due.BAD, 1 << 16, -65536, 10000, 100000};

    static int call(TwinTables x, String name, int[] a) {
        switch (name) {
            case "table": return x.table(a[0]);
            case "figure": return x.figure(a[0], a[1], a[2], a[3], a[4]);
            case "told": return x.told(a[0], a[1]);
            case "as": return x.as(a[0], a[1]);
            case "turns": return x.turns(a[0], a[1]);
            case "base": return x.base(a[0]);
            case "feed": return x.feed(a[0], a[1], a[2]);
            case "trim": return x.trim(a[0]);
            case "text": return x.text();
            case "of": return x.of(a[0], a[1]);
            case "why": return x.why(a[0], a[1]);
            case "line": return x.line(a[0], a[1]);
            case "run": return x.run(a[0], a[1], a[2]);
            case "soon": return x.soon(a[0], a[1]);
            case "even": return x.even();
            case "digit": return x.digit(a[0]);
            case "odd": return x.odd();
            case "choose": return x.choose(a[0]);
            case "story": return x.story(a[0], a[1]);
            case "clear": return x.clear();
            case "road": return x.road(a[0], a[1], a[2]);
            case "far": return x.far(a[0], a[1]);
            case "diary": return x.diary(a[0], a[1]);
            case "could": return x.could(a[0], a[1], a[2]);
            case "leaner": return x.leaner(a[0], a[1], a[2]);
            case "falls": return x.falls(a[0]);
            case "left": return x.left(a[0]);
            case "pillar": return x.pillar();
            case "source": return x.source(a[0]);
            case "next": return x.next(a[0]);
            case "heard": return x.heard(a[0], a[1], a[2]);
            case "seed": return x.seed(a[0]);
            case "share": return x.share(a[0], a[1], a[2], a[3]);
            case "sheet": return x.sheet(a[0], a[1], a[2]);
            case "mark": return x.mark(a[0], a[1], a[2]);
            case "print": return x.print(a[0], a[1], a[2]);
            case "copy": return x.copy(a[0], a[1], a[2], a[3], a[4]);
            case "lay": return x.lay(a[0], a[1], a[2]);
            case "ask": return x.ask(a[0], a[1]);
            case "item": return x.item(a[0], a[1]);
            case "rest": return x.rest(a[0], a[1]);
            case "tell": return x.tell(a[0]);
            case "check": return x.check(a[0], a[1]);
            case "keep": return x.keep();
            case "back": return x.back();
            default: return x.count(a[0]);
        }
    }

    /** Up to the greatest that each argument of a call may mostly be (from -1 on). */
    private static int[] most(String name) {
        switch (name) {
            case "table": return new int[] {60};
            case "figure": return new int[] {4, 8, 10000, 300, 20};
            case "told": return new int[] {40, 11};
            case "as": case "turns": return new int[] {40, 8};
            case "base": return new int[] {10000};
            case "trim": return new int[] {13};
            case "of": return new int[] {14, 3};
            case "why": return new int[] {3, 12};
            case "line": return new int[] {6, 40};
            case "run": return new int[] {6, 5, 3};
            case "soon": return new int[] {13, 5};
            case "digit": return new int[] {10};
            case "choose": return new int[] {40};
            case "story": return new int[] {7, 8};
            case "road": return new int[] {6, 6, 31};
            case "far": return new int[] {6, 6};
            case "diary": return new int[] {40, 6};
            case "could": return new int[] {6, 40, 20};
            case "leaner": return new int[] {8, 8, 4};
            case "falls": case "left": return new int[] {4096};
            case "source": return new int[] {65536};
            case "next": return new int[] {256};
            case "heard": return new int[] {256, 8, 4};
            case "share": return new int[] {1000, 1000, 13, 5};
            case "sheet": return new int[] {4, 2, 25};
            case "mark": return new int[] {4, 10, 12000};
            case "print": return new int[] {4, 4, 1000};
            case "copy": return new int[] {4, 8, 4, 8, 8};
            case "lay": return new int[] {5, 4, 20};
            case "ask": return new int[] {5, 8};
            case "item": return new int[] {5, 8};
            case "rest": return new int[] {5, 4};
            case "check": return new int[] {13, 1000};
            case "count": return new int[] {12};
            default: return new int[] {100, 100, 100};
        }
    }

    static String randomName(Random random) {
        return NAMES[random.nextInt(NAMES.length)];
    }

    static int[] randomArguments(String name, Random random) {
        int[] most = most(name);
        int[] a = new int[5];
        for (int k = 0; k < most.length; k++) a[k] = random.nextInt(most[k] + 2) - 1;
        if (random.nextInt(12) == 0) a[random.nextInt(5)] = random.nextBoolean() ? WILD[random.nextInt(WILD.length)] : random.nextInt();
        return a;
    }

    /** Mostly one of a few TEXTS, so that many go through; the tape is emptied ahead. */
    static void feedSome(TwinTables x, Random random) {
        x.trim(0);
        Due.feed(x, TEXTS[random.nextInt(TEXTS.length)]);
    }

    /** What an image keeps, as far as it can be asked without changing it. */
    static List<Integer> kept(TwinTables x) {
        List<Integer> all = new ArrayList<>();
        for (int what = 0; what <= 8; what++) all.add(x.count(what));
        all.add(x.count(11));
        int base = x.base(0);
        x.base(base);
        all.add(base);
        for (int f = 0; f < 40; f++) for (int what = 0; what <= 10; what++) all.add(x.told(f, what));
        for (int t = 0; t < 14; t++) for (int what = 0; what < 3; what++) all.add(x.of(t, what));
        for (int t = 0; t < 12; t++) all.add(x.why(0, t));
        for (int l = 0; l < 6; l++) for (int p = 1; p < 5; p++) for (int what = 0; what < 3; what++) all.add(x.run(l, p, what));
        all.add(x.odd());
        for (int u = 0; u < 7; u++) for (int what = 0; what < 8; what++) all.add(x.story(u, what));
        for (int a = 0; a < 6; a++) for (int b = 0; b < 6; b++) all.add(x.far(a, b));
        for (int place = 0; place < 6; place++) for (int day = 0; day < 60; day++) all.add(x.could(place, day, 1));
        for (int set = 0; set < 64; set++) all.add(x.falls(set));
        for (int s = 0; s < 8; s++) for (int answer = 0; answer < 4; answer++) all.add(x.heard(255, s, answer));
        return all;
    }

    /** SLOTS and the numbers and bytes that wait, as far as they can be asked without changing them. */
    static List<Integer> besides(TwinTables x) {
        List<Integer> all = new ArrayList<>();
        all.add(x.count(9));
        all.add(x.count(10));
        for (int slot = 0; slot < 5; slot++) {
            for (int kind = 0; kind < 8; kind++) all.add(x.ask(slot, kind));
            for (int place = 0; place < 25; place++) all.add(x.item(slot, place));
            for (int n = 99990; n < 100000; n++) all.add(x.rest(slot, n));
        }
        for (int sheet = 0; sheet < 4; sheet++) {
            for (int place = 0; place < 25; place++) all.add(x.copy(sheet, place, sheet, place, 1));
        }
        return all;
    }
}
