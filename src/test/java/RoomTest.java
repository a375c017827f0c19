import java.lang.management.ManagementFactory;
import java.util.Random;

/** The room that calls take: an object takes little, and a call on it makes nothing at all. */
public final class RoomTest {
    private static final com.sun.management.ThreadMXBean BEAN = (com.sun.management.ThreadMXBean) ManagementFactory.getThreadMXBean();

    public static void main(String[] args) {
        Due due = new Due();
        new TwinTables();
        long before = room();
        TwinTables x = new TwinTables();
        long made = room() - before;
        System.out.println("an object takes " + made + " bytes");
        due.is("an object", made < 40000 ? 1 : 0, 1);
        Random random = new Random(5);
        String[] names = new String[512];
        int[][] arguments = new int[512][];
        for (int k = 0; k < 512; k++) {
            names[k] = Caller.randomName(random);
            arguments[k] = Caller.randomArguments(names[k], random);
        }
        for (int k = 0; k < 512; k++) Caller.call(new TwinTables(), names[k], arguments[k]); // classes that a first call loads
        before = room();
        for (int k = 0; k < 512; k++) Caller.call(x, names[k], arguments[k]);
        long used = room() - before;
        System.out.println("512 calls take " + used + " bytes");
        due.is("512 calls", used < 10000 ? 1 : 0, 1);
        due.end();
    }

    private static long room() {
        return BEAN.getThreadAllocatedBytes(Thread.currentThread().getId());
    }
}
