import java.lang.management.ManagementFactory;
import java.util.ArrayList;
import java.util.List;
import java.util.Random;

/** The room that calls take: an object takes little, and a call on it makes nothing at all. */
public final class RoomTest {
    private static final com.sun.management.ThreadMXBean BEAN = (com.sun.management.ThreadMXBean) ManagementFactory.getThreadMXBean();
    private static final String[] TOLD = {"table 1", "table 2", "figure 0 1 7700 20 -1", "figure 1 4 7700 20 0", "text odd (c>1)&!d", "text spread n+y",
        "text working 1 f*(n-i)/2", "text working 0 ((", "line 0 0", "line 0 1", "run 0 3 2", "soon 2 3", "odd", "choose 1", "story 1 0", "count 2",
        "sheet 0 0 5", "sheet 1 0 5", "copy 0 0 1 1 3", "print 1 0 9", "lay 0 2 0", "lay 1 1 1", "keep", "tell 1", "check 2 9", "share 20012 9 2 2", "back"};
    private static final int ROUNDS = 5;

    public static void main(String[] args) {
        Due due = new Due();
        new TwinTables();
        long before = room();
        new TwinTables();
        long made = room() - before;
        System.out.println("an object takes " + made + " bytes");
        due.is("an object", made < 40000 ? 1 : 0, 1);
        for (int seed = 0; seed < 20; seed++) due.is("bytes that calls take, of seed " + seed, least(calls(new Random(seed))), 0);
        due.end();
    }

    private static List<Run.Call> calls(Random random) {
        List<Run.Call> calls = new ArrayList<>();
        for (String told : TOLD) calls.addAll(Run.read(told));
        while (calls.size() < Run.MOST_CALLS) {
            String name = Caller.randomName(random);
            calls.add(new Run.Call(name, Caller.randomArguments(name, random)));
        }
        return calls;
    }

    /** The least of some rounds, for the machine itself makes some when code is run for the first time. */
    private static long least(List<Run.Call> calls) {
        long least = Long.MAX_VALUE;
        for (int round = 0; round < ROUNDS; round++) {
            TwinTables x = new TwinTables();
            long before = room();
            for (int k = 0; k < calls.size(); k++) calls.get(k).on(x);
            least = Math.min(least, room() - before);
        }
        return least;
    }

    private static long room() {
        return BEAN.getThreadAllocatedBytes(Thread.currentThread().getId());
    }
}
