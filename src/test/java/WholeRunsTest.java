import java.util.ArrayList;
import java.util.Arrays;
import java.util.HashMap;
import java.util.HashSet;
import java.util.List;
import java.util.Map;
import java.util.Random;
import java.util.Set;

/** All promises: runs of up to 512 calls made at random, each answer held against a second reading of the document. */
public final class WholeRunsTest {
    private static final Due due = new Due();
    private static final int RUNS = 1000;
    private static final Map<Integer, String> REFUSALS = Map.of(Due.BAD, "BAD", Due.NO, "NO", Due.FULL, "FULL", Due.NONE, "NONE",
        Due.NOTHING, "NOTHING", Due.KIND, "KIND", Due.INDEX, "INDEX", Due.SIZE, "SIZE");
    /** What each call can be seen to answer beside what it is asked for; line's FULL never comes, for NO stands ahead of it. */
    private static final String[] LISTED = {"table BAD NO FULL", "figure BAD FULL", "told BAD NONE", "as BAD KIND", "turns BAD", "base BAD", "feed FULL",
        "trim BAD", "text FULL", "of BAD NONE", "why BAD NONE", "line BAD NO", "run BAD NONE", "soon BAD NONE", "digit BAD", "choose BAD NO FULL",
        "story BAD NONE", "road BAD", "far BAD NONE", "diary BAD NO FULL", "could BAD", "leaner BAD FULL", "falls BAD", "left BAD", "pillar NONE",
        "source BAD FULL", "next BAD NONE", "heard BAD", "share BAD", "sheet BAD SIZE", "mark BAD NOTHING INDEX KIND", "print BAD NOTHING FULL",
        "copy BAD NOTHING KIND INDEX", "lay BAD NOTHING", "ask BAD NOTHING KIND", "item BAD NOTHING KIND INDEX", "rest NO BAD NOTHING KIND",
        "tell FULL", "check BAD NO", "back NO", "count BAD"};

    private final Random random;
    private final TwinTables x = new TwinTables();
    private final Second second = new Second();
    private final List<String> lot = new ArrayList<>();
    private final StringBuilder told = new StringBuilder();
    private int calls;
    private boolean wrong;

    private WholeRunsTest(long seed) {
        random = new Random(seed);
        for (String name : Caller.NAMES) {
            int weight = random.nextInt(3) == 0 ? 8 : 1 + random.nextInt(3);
            for (int k = 0; k < weight; k++) lot.add(name);
        }
        String often = Caller.randomName(random); // often enough that what it fills becomes full
        for (int k = 0; k < 80; k++) lot.add(often);
    }

    public static void main(String[] args) {
        Map<String, Set<String>> seen = new HashMap<>();
        int runs = args.length > 0 ? Integer.parseInt(args[0]) : RUNS;
        for (int seed = 0; seed < runs; seed++) new WholeRunsTest(seed).go(seen);
        for (String listed : LISTED) {
            String[] words = listed.split(" ");
            Set<String> answers = seen.getOrDefault(words[0], Set.of());
            for (int k = 1; k < words.length; k++) due.is(words[0] + " was seen to answer " + words[k], answers.contains(words[k]) ? 1 : 0, 1);
            due.is(words[0] + " answers nothing that is not listed, of " + answers, answers.size(), words.length - 1);
        }
        due.end();
    }

    private void go(Map<String, Set<String>> seen) {
        int first = random.nextInt(60);
        while (calls < Run.MOST_CALLS - 12 && !wrong) {
            String name = calls < first ? (calls % 4 == 0 ? "table" : "figure") : lot.get(random.nextInt(lot.size()));
            if (name.equals("text") || name.equals("feed") && random.nextInt(3) == 0) feedText();
            if (name.equals("check") && random.nextInt(3) != 0) tellAndCheck(seen);
            else make(name, arguments(name), seen);
        }
    }

    private void make(String name, int[] a, Map<String, Set<String>> seen) {
        calls++;
        int want = second.call(name, a);
        int got = Caller.call(x, name, a);
        told.append(name).append(Arrays.toString(a)).append(' ').append(got).append("; ");
        due.is("the last of " + told, got, want);
        wrong |= got != want;
        String refusal = REFUSALS.get(got);
        boolean free = name.equals("seed") || name.equals("count") && a[0] == 11 || name.equals("told") && a[1] == 8 && got != Due.NONE || name.equals("rest") && got > Due.BAD;
        if (refusal != null && !free) seen.computeIfAbsent(name, any -> new HashSet<>()).add(refusal);
    }

    private void make(String name, int... a) {
        make(name, Arrays.copyOf(a, 5), new HashMap<>());
    }

    /** Values that are told as they are in THE IMAGE, but for one of them at times, or too few, or too many. */
    private void tellAndCheck(Map<String, Set<String>> seen) {
        int k = 2 + random.nextInt(5);
        int n = 1 + random.nextInt(random.nextBoolean() ? 999 : 20);
        List<Integer> land = new ArrayList<>(second.landOfImage(k, n));
        int dice = random.nextInt(5);
        if (dice == 0 && !land.isEmpty()) land.set(random.nextInt(land.size()), random.nextInt(10000));
        if (dice == 1 && !land.isEmpty()) land.remove(land.size() - 1);
        if (dice == 2) land.add(random.nextInt(10000));
        for (int value : land) make("tell", value);
        make("check", new int[] {k, n, 0, 0, 0}, seen);
    }

    // ---- texts

    private void feedText() {
        String made = madeText();
        if (random.nextInt(4) == 0 && !made.isEmpty()) {
            int at = random.nextInt(made.length());
            String odd = " ()!+=&|9nz\u00e9".substring(random.nextInt(11)).substring(0, 1);
            made = made.substring(0, at) + odd + made.substring(at + random.nextInt(2));
        }
        if (made.length() > 96) made = made.substring(0, 96);
        make("trim", 0);
        for (int k = 0; k < made.length(); k += 12) make("feed", Due.four(made, k), Due.four(made, k + 4), Due.four(made, k + 8));
        make("trim", made.length());
    }

    private String madeText() {
        int key = random.nextInt(4) % 3;
        if (key == 1) return "spread " + (random.nextBoolean() ? "" + random.nextInt(60) : made("ny", 0, 2));
        return key == 2 ? "odd " + made("cda", 0, 2) : "working " + random.nextInt(random.nextInt(6) == 0 ? 13 : 4) + " " + worked();
    }

    private String worked() {
        switch (random.nextInt(4)) {
            case 0: return "f";
            case 1: return "f+" + random.nextInt(60);
            case 2: return "" + (7690 + random.nextInt(30));
            default: return made("nfi", 0, 2);
        }
    }

    private String made(String names, int level, int room) {
        if (level < 5) {
            String[] signs = {"|", "&", "<=>", "+-", "*/"};
            String one = made(names, level + 1, room);
            if (random.nextInt(5) != 0) return one;
            String blank = random.nextBoolean() ? " " : "";
            return one + blank + signs[level].charAt(random.nextInt(signs[level].length())) + made(names, level + 1, room);
        }
        int dice = random.nextInt(room > 0 ? 9 : 7);
        if (dice < 4) return "" + names.charAt(random.nextInt(names.length()));
        if (dice < 7) return "" + random.nextInt(random.nextBoolean() ? 10 : 10000);
        if (dice == 7) return "!".repeat(1 + random.nextInt(random.nextInt(9) == 0 ? 9 : 2)) + made(names, 5, room - 1);
        int open = 1 + random.nextInt(random.nextInt(9) == 0 ? 9 : 1);
        return "(".repeat(open) + made(names, 0, room - 1) + ")".repeat(open);
    }

    // ---- arguments that mostly go through

    private int[] arguments(String name) {
        if (random.nextInt(9) == 0) return Caller.randomArguments(name, random);
        int[] a = new int[5];
        int[] likely = likely(name);
        System.arraycopy(likely, 0, a, 0, likely.length);
        return a;
    }

    private int upTo(int most) {
        return random.nextInt(most + 1);
    }

    private int figure() {
        return random.nextInt(Math.max(1, second.many(1)));
    }

    private int pairs() {
        return random.nextInt(3) == 0 ? 1 + random.nextInt(999) : 1 + random.nextInt(40);
    }

    private int value() {
        int dice = random.nextInt(6);
        return dice == 0 ? upTo(9999) : dice == 1 ? 7690 + random.nextInt(20) * 10 : 7700 + random.nextInt(dice == 2 ? 9 : 3);
    }

    private int day() {
        return random.nextInt(20) == 0 ? 9990 + random.nextInt(10) : random.nextInt(60);
    }

    private int bits(int many) {
        return random.nextInt(1 << many);
    }

    private int[] likely(String name) {
        switch (name) {
            case "table": return new int[] {Math.min(59, 4 * second.many(0) + random.nextInt(5))};
            case "figure": return new int[] {random.nextInt(Math.max(1, second.many(0))), upTo(7), value(), pairs(), random.nextInt(3) == 0 ? -1 : figure()};
            case "told": return new int[] {figure(), upTo(10)};
            case "as": case "turns": return new int[] {figure(), upTo(7)};
            case "base": return new int[] {random.nextInt(9) == 0 ? upTo(9999) : 7690 + upTo(20)};
            case "feed": return new int[] {random.nextInt(), random.nextInt(), random.nextInt()};
            case "trim": return new int[] {upTo(second.many(10))};
            case "of": return new int[] {random.nextInt(Math.max(1, second.many(4))), upTo(2)};
            case "why": return new int[] {upTo(2), upTo(11)};
            case "line": return new int[] {upTo(random.nextBoolean() ? 1 : 5), figure()};
            case "run": return new int[] {upTo(random.nextBoolean() ? 1 : 5), 1 + upTo(3), upTo(2)};
            case "soon": return new int[] {2 + upTo(random.nextBoolean() ? 2 : 10), 1 + upTo(3)};
            case "digit": return new int[] {upTo(9)};
            case "choose": return new int[] {figure()};
            case "story": return new int[] {upTo(random.nextBoolean() ? 2 : 6), upTo(1 + second.many(5))};
            case "road": return new int[] {upTo(5), upTo(5), random.nextInt(4) == 0 ? 0 : upTo(30)};
            case "far": return new int[] {upTo(5), upTo(5)};
            case "diary": return new int[] {day(), upTo(5)};
            case "could": return new int[] {upTo(5), day(), 1 + upTo(random.nextInt(4) == 0 ? 98 : 3)};
            case "leaner": return new int[] {bits(second.many(0)), bits(second.many(7)), random.nextInt(9) == 0 ? upTo(28) : upTo(4)};
            case "falls": case "left": return new int[] {bits(random.nextBoolean() ? 12 : 4)};
            default: return moreLikely(name);
        }
    }

    private int[] moreLikely(String name) {
        switch (name) {
            case "source": return new int[] {bits(16)};
            case "next": return new int[] {1 + random.nextInt(255)};
            case "heard": return new int[] {bits(8), random.nextInt(Math.max(1, second.many(8))), upTo(3)};
            case "seed": return new int[] {random.nextInt()};
            case "share": return new int[] {100 * (1 + random.nextInt(random.nextInt(30) == 0 ? 200 : 9)) + 2 + upTo(10), pairs(), 2 + upTo(random.nextBoolean() ? 2 : 10), 1 + upTo(3)};
            case "sheet": return new int[] {upTo(3), random.nextInt(9) == 0 ? -1 : upTo(1), random.nextInt(12) == 0 ? 20 + upTo(4) : upTo(6)};
            case "mark": return new int[] {upTo(3), upTo(4), random.nextInt(6) == 0 ? Due.NONE : random.nextInt(4) == 0 ? random.nextInt(200000) - 100000 : value()};
            case "print": return new int[] {random.nextInt(Math.max(1, second.many(0))), upTo(3), pairs()};
            case "copy": return new int[] {upTo(3), upTo(3), upTo(3), upTo(3), upTo(4)};
            case "lay": return new int[] {upTo(4), upTo(3), random.nextBoolean() ? upTo(3) : random.nextInt(9) == 0 ? random.nextInt() : figure()};
            case "ask": return new int[] {upTo(4), upTo(7)};
            case "item": return new int[] {upTo(4), upTo(4)};
            case "rest": return new int[] {upTo(4), random.nextInt(20) - 10};
            case "tell": return new int[] {random.nextInt(10000)};
            case "check": return new int[] {2 + upTo(10), pairs()};
            case "count": return new int[] {upTo(11)};
            default: return new int[0];
        }
    }
}
