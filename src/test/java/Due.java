/** Counts the calls whose answer is not the one that is due, and ends a test. */
final class Due {
    static final int BAD = TwinTables.BAD, NO = TwinTables.NO, FULL = TwinTables.FULL, NONE = TwinTables.NONE;
    static final int NOTHING = TwinTables.NOTHING, KIND = TwinTables.KIND, INDEX = TwinTables.INDEX, SIZE = TwinTables.SIZE;
    private int wrong;
    private int asked;

    void is(String call, long got, long want) {
        asked++;
        if (got == want) return;
        wrong++;
        if (wrong <= 40) System.out.println(call + " answered " + got + ", due is " + want);
    }

    void end() {
        System.out.println(asked + " answers looked at, " + wrong + " not as due");
        if (wrong != 0 || asked == 0) System.exit(1);
    }

    /** Puts a row of bytes (characters 0 .. 255) on an empty tape. */
    static void feed(TwinTables x, String s) {
        for (int k = 0; k < s.length(); k += 12) x.feed(four(s, k), four(s, k + 4), four(s, k + 8));
        x.trim(s.length());
    }

    static int text(TwinTables x, String s) {
        feed(x, s);
        return x.text();
    }

    private static int four(String s, int from) {
        int four = 0;
        for (int k = from; k < from + 4; k++) four = four << 8 | (k < s.length() ? s.charAt(k) & 255 : 0);
        return four;
    }

    /** So many TABLES, of the years 1, 2, 3 and so on. */
    static TwinTables withTables(int many) {
        TwinTables x = new TwinTables();
        for (int k = 0; k < many; k++) x.table(k + 1);
        return x;
    }
}
