import java.util.ArrayList;
import java.util.Arrays;
import java.util.LinkedHashMap;
import java.util.List;
import java.util.Map;

/**
 * All that can be asked of an object, in rows of calls each made on an object of its own, so that a row may change what
 * it looks at. Two runs leave the same if all rows answer the same.
 */
final class Probes {
    static final String TAPE = "tape", WAITING = "waiting";
    private static final int MOST_ROW = 100;
    private static final Map<String, List<Run.Call>> ROWS = rows();

    private Probes() { }

    /** The answers of all rows behind a run, but for those of the parts that are named. */
    static Map<String, int[]> behind(Run run, String... but) {
        Map<String, int[]> answers = new LinkedHashMap<>();
        for (Map.Entry<String, List<Run.Call>> row : ROWS.entrySet()) {
            if (!Arrays.asList(but).contains(row.getKey().split(" ")[0])) answers.put(row.getKey(), run.answers(row.getValue()));
        }
        return answers;
    }

    /** The name of the first row that answers otherwise; empty if none does. */
    static String difference(Map<String, int[]> one, Map<String, int[]> other) {
        for (String row : one.keySet()) {
            if (other.containsKey(row) && !Arrays.equals(one.get(row), other.get(row))) return row;
        }
        return "";
    }

    private static Map<String, List<Run.Call>> rows() {
        Map<String, List<Run.Call>> rows = new LinkedHashMap<>();
        keptRows(rows);
        for (Map.Entry<String, List<Run.Call>> row : new ArrayList<>(rows.entrySet())) {
            List<Run.Call> imaged = new ArrayList<>(Run.read("back"));
            imaged.addAll(row.getValue());
            rows.put("image " + row.getKey(), imaged);
        }
        sheetRows(rows);
        put(rows, TAPE + " bytes", List.of("count 10", "text", "count 4", "of 5 0", "of 5 1", "of 5 2", "odd", "told 0 7", "count 10"));
        put(rows, TAPE + " room", List.of("count 10", "feed 1 2 3", "trim 96", "trim 7", "count 10"));
        put(rows, WAITING + " for the image", List.of("count 9", "check 5 50", "count 9"));
        put(rows, WAITING + " for more", List.of("tell 3", "count 9", "keep", "check 5 50", "count 9"));
        for (Map.Entry<String, List<Run.Call>> row : rows.entrySet()) {
            if (row.getValue().size() > MOST_ROW + 1) throw new IllegalStateException(row.getKey() + " is too long");
        }
        return rows;
    }

    private static void put(Map<String, List<Run.Call>> rows, String name, List<String> told) {
        List<Run.Call> calls = new ArrayList<>();
        for (String each : told) calls.addAll(Run.read(each));
        rows.put(name, calls);
    }

    /** All tuples of numbers from 0 on below the bounds, each behind a name. */
    private static List<String> all(String name, int... bounds) {
        List<String> told = List.of(name);
        for (int bound : bounds) {
            List<String> longer = new ArrayList<>();
            for (String each : told) for (int k = 0; k < bound; k++) longer.add(each + " " + k);
            told = longer;
        }
        return told;
    }

    @SafeVarargs
    private static List<String> join(List<String>... parts) {
        List<String> joined = new ArrayList<>();
        for (List<String> part : parts) joined.addAll(part);
        return joined;
    }

    private static void keptRows(Map<String, List<Run.Call>> rows) {
        put(rows, "counts", join(all("count", 9), List.of("count 11", "seed 5", "base 0", "pillar", "keep")));
        List<String> told = all("told", 40, 11);
        for (int k = 0; k < told.size(); k += 88) put(rows, "figures from " + k / 11, told.subList(k, k + 88));
        put(rows, "texts", join(all("of", 14, 3), all("why 0", 12), List.of("why 1 0", "why 2 0")));
        List<String> runs = new ArrayList<>();
        for (int p = 1; p <= 4; p++) for (int line = 0; line < 6; line++) for (int what = 0; what < 3; what++) runs.add("run " + line + " " + p + " " + what);
        put(rows, "runs", runs);
        List<String> soon = new ArrayList<>();
        for (int k = 2; k <= 12; k++) for (int p = 1; p <= 4; p++) soon.add("soon " + k + " " + p);
        put(rows, "soon", join(soon, all("digit", 10), List.of("even", "odd")));
        put(rows, "stories", join(all("story", 7, 8), List.of("clear", "story 0 0")));
        put(rows, "chosen", all("choose", 40));
        put(rows, "far", all("far", 6, 6));
        List<String> roads = new ArrayList<>();
        for (int one = 0; one < 6; one++) for (int other = 0; other < one; other++) roads.add("road " + one + " " + other + " 0");
        put(rows, "roads", roads);
        List<String> could = new ArrayList<>();
        for (int place = 0; place < 6; place++) {
            for (int day : new int[] {0, 2, 9, 10, 11, 13, 14, 17, 19, 20, 21, 9998, 9999}) could.add("could " + place + " " + day + " 1");
            could.add("could " + place + " 0 99");
        }
        put(rows, "could", could);
        List<String> leaning = new ArrayList<>();
        for (int set = 0; set < 4096; set += 117) leaning.addAll(List.of("falls " + set, "left " + set));
        put(rows, "leaning", leaning);
        put(rows, "sources", join(all("heard 255", 8, 4), List.of("next 255", "next 15", "next 240", "next 85", "next 170", "next 51")));
        put(rows, "lands", List.of("share 2005 20 2 2", "count 11", "share 20012 50 3 3", "count 11"));
        put(rows, "more", List.of("table 59", "figure 0 1 1 1 -1", "text odd 1", "line 1 1", "line 1 3", "choose 3", "diary 5555 1",
            "leaner 0 0 0", "source 0", "count 0", "count 1", "count 4", "count 5", "count 6", "count 7", "count 8"));
    }

    private static void sheetRows(Map<String, List<Run.Call>> rows) {
        List<String> rests = new ArrayList<>();
        for (int slot = 0; slot < 5; slot++) for (int n : new int[] {7, 65537, 1000003}) rests.add("rest " + slot + " " + n);
        put(rows, "slots", join(all("ask", 5, 8), rests, all("lay", 5, 1, 1)));
        for (int slot = 0; slot < 5; slot++) put(rows, "items of slot " + slot, all("item " + slot, 25));
        for (int sheet = 0; sheet < 4; sheet++) {
            put(rows, "sheet " + sheet, join(List.of("lay 0 2 " + sheet), all("item 0", 25), List.of("mark " + sheet + " 0 NONE", "print 0 " + sheet + " 9", "count 1")));
        }
    }
}
