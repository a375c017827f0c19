import java.util.List;
import java.util.Random;

/** Promises 45 to 47: keep, back, count; what an image keeps and what it does not. */
public final class ImagesTest {
    private static final Due due = new Due();

    public static void main(String[] args) {
        none();
        counts();
        notKept();
        everything();
        for (int seed = 0; seed < 150; seed++) randomImages(new Random(seed));
        due.end();
    }

    private static void none() {
        TwinTables x = Due.withTables(1);
        due.is("no image", x.back(), Due.NO);
        due.is("as it was", x.count(0), 1);
        due.is("keep", x.keep(), 0);
        x.figure(0, 1, 1, 1, -1);
        due.is("keep", x.keep(), 1);
        x.figure(0, 1, 1, 1, -1);
        due.is("back", x.back(), 1);
        due.is("back", x.back(), 1);
        due.is("figures", x.count(1), 1);
        due.is("goes on", x.figure(0, 1, 1, 1, 0), 1);
        due.is("back again", x.back(), 1);
    }

    private static void counts() {
        TwinTables x = Due.withTables(3);
        x.figure(0, 6, 7700, 10, -1);
        x.figure(0, 4, 7700, 10, -1);
        x.figure(0, 6, 7700, 10, -1);
        x.figure(0, 7, 7700, 10, 0);
        x.figure(0, 7, 7701, 10, 0);
        Due.text(x, "odd 1");
        x.choose(0);
        x.choose(3);
        x.diary(5, 5);
        for (int k = 0; k < 4; k++) x.leaner(0, 0, 0);
        for (int k = 0; k < 5; k++) x.source(k);
        for (int k = 0; k < 6; k++) x.tell(k);
        x.feed(0, 0, 0);
        x.seed(77);
        int[] want = {3, 5, 3, 4, 1, 2, 1, 4, 5, 6, 12, 77};
        for (int what = 0; what < 12; what++) due.is("count " + what, x.count(what), want[what]);
        due.is("count", x.count(-1), Due.BAD);
        due.is("count", x.count(12), Due.BAD);
    }

    private static void notKept() {
        TwinTables x = new TwinTables();
        x.keep();
        x.sheet(1, 1, 3);
        x.lay(2, 3, 9);
        x.tell(4);
        x.feed(0, 0, 0);
        x.back();
        due.is("sheet", x.mark(1, 2, 5), 1);
        due.is("slot", x.rest(2, 5), 4);
        due.is("waits", x.count(9), 1);
        due.is("tape", x.count(10), 12);
    }

    /** Every part that an image keeps is changed, and is as it was behind back. */
    private static void everything() {
        TwinTables x = Due.withTables(6);
        for (int k = 0; k < 6; k++) x.figure(k, 1, 7700 + k, 20, k - 1);
        Due.text(x, "working 1 f+1");
        x.line(0, 0);
        x.line(0, 1);
        x.choose(2);
        x.road(0, 1, 5);
        x.diary(3, 1);
        x.leaner(1, 0, 1);
        x.source(6);
        x.seed(42);
        x.base(7000);
        List<Integer> before = Caller.kept(x);
        x.keep();
        x.table(30);
        x.figure(6, 6, 1, 1, -1);
        x.turns(1, 6);
        Due.text(x, "working 1 f+2");
        Due.text(x, "spread 3");
        Due.text(x, "odd 1");
        x.line(0, 2);
        x.line(3, 4);
        x.clear();
        x.choose(4);
        x.choose(5);
        x.road(0, 1, 0);
        x.road(1, 2, 2);
        x.diary(4, 0);
        x.leaner(0, 1, 1);
        x.source(99);
        x.seed(5);
        x.base(1);
        due.is("changed", before.equals(Caller.kept(x)) ? 1 : 0, 0);
        x.back();
        due.is("as it was", before.equals(Caller.kept(x)) ? 1 : 0, 1);
        // what comes behind back on the same places does not reach the image
        x.figure(5, 7, 2, 2, -1);
        Due.text(x, "working 1 f+9");
        x.line(0, 5);
        x.choose(0);
        x.diary(9, 2);
        x.leaner(0, 0, 1);
        x.source(1);
        x.back();
        due.is("as it was again", before.equals(Caller.kept(x)) ? 1 : 0, 1);
        due.is("the one that was told", x.choose(2), Due.NO);
        due.is("one that was not", x.choose(4), 2);
    }

    private static void randomImages(Random random) {
        TwinTables x = new TwinTables();
        List<Integer> image = null;
        for (int k = 0; k < 300; k++) {
            String name = Caller.randomName(random);
            if (name.equals("text")) Caller.feedSome(x, random);
            if (name.equals("keep") || name.equals("back")) {
                if (random.nextInt(3) != 0) continue;
                List<Integer> beside = Caller.besides(x);
                if (name.equals("keep")) image = Caller.kept(x);
                int figures = name.equals("keep") ? x.keep() : x.back();
                due.is(name, figures, image == null ? Due.NO : image.get(1));
                if (image != null) due.is("as the image", image.equals(Caller.kept(x)) ? 1 : 0, 1);
                due.is("beside the image", beside.equals(Caller.besides(x)) ? 1 : 0, 1);
                continue;
            }
            Caller.call(x, name, Caller.randomArguments(name, random));
        }
    }
}
