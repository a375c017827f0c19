import java.util.Arrays;
import java.util.List;
import java.util.Random;

/** No call throws; a call that is refused changes nothing; the same calls give the same answers. */
public final class AnyCallTest {
    private static final Due due = new Due();

    public static void main(String[] args) {
        for (int seed = 0; seed < 3000; seed++) anyCalls(new Random(seed));
        for (int seed = 0; seed < 150; seed++) refused(new Random(seed));
        due.end();
    }

    private static void anyCalls(Random random) {
        TwinTables one = new TwinTables();
        TwinTables other = new TwinTables();
        for (int k = 0; k < 512; k++) {
            String name = Caller.randomName(random);
            int[] a = Caller.randomArguments(name, random);
            if (name.equals("text") && random.nextInt(4) != 0) {
                long seed = random.nextLong();
                Caller.feedSome(one, new Random(seed));
                Caller.feedSome(other, new Random(seed));
            }
            try {
                due.is(name + Arrays.toString(a), Caller.call(one, name, a), Caller.call(other, name, a));
            } catch (RuntimeException | StackOverflowError thrown) {
                thrown.printStackTrace(System.out);
                due.is(name + Arrays.toString(a) + " threw", 1, 0);
            }
        }
    }

    private static boolean isRefused(int answer) {
        return answer >= Due.SIZE && answer <= Due.BAD;
    }

    private static void refused(Random random) {
        TwinTables x = new TwinTables();
        for (int k = 0; k < 300; k++) {
            String name = Caller.randomName(random);
            int[] a = Caller.randomArguments(name, random);
            if (name.equals("seed")) a[0] &= 0xffff;
            if (name.equals("text") && random.nextInt(4) != 0) Caller.feedSome(x, random);
            List<Integer> kept = Caller.kept(x);
            List<Integer> beside = Caller.besides(x);
            if (!isRefused(Caller.call(x, name, a))) continue;
            if (name.equals("check")) beside.set(0, 0);
            if (name.equals("text")) beside.set(1, 0);
            due.is(name + Arrays.toString(a) + " kept", kept.equals(Caller.kept(x)) ? 1 : 0, 1);
            due.is(name + Arrays.toString(a) + " beside", beside.equals(Caller.besides(x)) ? 1 : 0, 1);
        }
    }
}
