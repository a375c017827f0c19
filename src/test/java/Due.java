import java.util.Map;

/** Counts the calls whose answer is not the one that is due, and ends a test. */
final class Due {
    static final int BAD = TwinTables.BAD, NO = TwinTables.NO, FULL = TwinTables.FULL, NONE = TwinTables.NONE;
    static final int NOTHING = TwinTables.NOTHING, KIND = TwinTables.KIND, INDEX = TwinTables.INDEX, SIZE = TwinTables.SIZE;
    private int wrong;
    private int asked;

    void is(String call, long got, long want) {
        asked++;
        if (got == want) return;
        wrong++;
        if (wrong <= 40) System.out.println(call + " answered " + got + ", due is " + want);
    }

    /** A sentence that a test holds is one of the document's. */
    void quoted(String sentence) {
        is("the document says: " + sentence, Document.says(sentence) ? 1 : 0, 1);
    }

    /** A sentence of the document, on one new object behind a run: calls and the answer that is due to each, by turns. */
    void says(String sentence, Run run, Object... told) {
        quoted(sentence);
        Run longer = run;
        for (int k = 0; k + 1 < told.length; k += 2) {
            longer = longer.then((String) told[k]);
            is(sentence + " | " + told[k], longer.last(), (Integer) told[k + 1]);
        }
    }

    /** Each of the calls is refused behind a run, and all is the same behind it but for the parts named (see Probes). */
    void refuses(String sentence, Run run, int want, String[] but, String... told) {
        quoted(sentence);
        Map<String, int[]> before = Probes.behind(run, but);
        for (String call : told) {
            Run longer = run.then(call);
            is(sentence + " | " + call, longer.last(), want);
            String changed = Probes.difference(before, Probes.behind(longer, but));
            is(sentence + " | " + call + " changed: " + changed, changed.length(), 0);
        }
    }

    void refuses(String sentence, Run run, int want, String... told) {
        refuses(sentence, run, want, new String[0], told);
    }

    void end() {
        System.out.println(asked + " answers looked at, " + wrong + " not as due");
        if (wrong != 0 || asked == 0) System.exit(1);
    }

    /** Puts a row of bytes (characters 0 .. 255) on an empty tape. */
    static void feed(TwinTables x, String s) {
        for (int k = 0; k < s.length(); k += 12) x.feed(four(s, k), four(s, k + 4), four(s, k + 8));
        x.trim(s.length());
    }

    static int text(TwinTables x, String s) {
        feed(x, s);
        return x.text();
    }

    static int four(String s, int from) {
        int four = 0;
        for (int k = from; k < from + 4; k++) four = four << 8 | (k < s.length() ? s.charAt(k) & 255 : 0);
        return four;
    }

    /** So many TABLES, of the years 1, 2, 3 and so on. */
    static TwinTables withTables(int many) {
        TwinTables x = new TwinTables();
        for (int k = 0; k < many; k++) x.table(k + 1);
        return x;
    }
}
