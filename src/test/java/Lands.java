/** LANDS drawn beside the class, in another way than its own. */
final class Lands {
    private Lands() { }

    static int[] values(int seed, int tables, int base, int spread) {
        long z = seed & 0xffffffffL;
        int[] values = new int[tables];
        for (int k = 0; k < tables; k++) {
            z = (z * 1103515245L + 12345L) % (1L << 32);
            values[k] = Math.max(0, Math.min(9999, base - spread + (int) (z / 256 % (2 * spread + 1))));
        }
        return values;
    }

    /** What z has become when so many were drawn. */
    static int seedBehind(int seed, int draws) {
        long z = seed & 0xffffffffL;
        for (int k = 0; k < draws; k++) z = (z * 1103515245L + 12345L) % (1L << 32);
        return (int) z;
    }
}
