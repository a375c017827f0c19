import java.util.ArrayList;
import java.util.Arrays;
import java.util.LinkedHashSet;
import java.util.List;
import java.util.Map;
import java.util.Set;

/**
 * "A call that is refused answers one of BAD, NO, FULL, or a FINDING, of several the one that stands first with it, and
 * changes nothing (but the tape and the numbers that wait, where told)": every call with every one of its edges next to
 * every other, on an empty object, on two with some of everything, on a full one.
 */
public final class RefusalsTest {
    private static final Due due = new Due();
    private static final int FINE = 1, MIN = Integer.MIN_VALUE, MAX = Integer.MAX_VALUE;
    private static final int GROUP = 120;

    public static void main(String[] args) {
        due.quoted("A call that is refused answers one of BAD, NO, FULL, or a FINDING, of several the one that stands first with it, and changes nothing"
            + " (but the tape and the numbers that wait, where told).");
        for (World w : World.all()) {
            facts(w);
            for (String name : Caller.NAMES) {
                if (!name.equals("text")) edges(w, name);
            }
            texts(w);
        }
        due.end();
    }

    /** The facts that a world tells of itself hold: else the rest would look at another one. */
    private static void facts(World w) {
        int[] want = {w.years.length, w.table.length, -1, -1, w.texts, w.chosen.length, w.days.length, w.leaners, w.sources, w.waits, w.bytes};
        for (int what = 0; what < want.length; what++) {
            if (want[what] >= 0) due.is(w.name + " has " + what, w.run.answer("count " + what), want[what]);
        }
        due.is(w.name + " has an image", w.run.answer("back") != Due.NO ? 1 : 0, w.imaged ? 1 : 0);
        for (int slot = 0; slot < 5; slot++) due.is(w.name + " slot " + slot, w.run.answer("lay " + slot + " 0 0"), w.thing[slot]);
        for (int f = 0; f < w.table.length; f++) {
            due.is(w.name + " table of " + f, w.run.answer("told " + f + " 0"), w.table[f]);
            due.is(w.name + " kind of " + f, w.run.answer("told " + f + " 1"), w.kind[f]);
            due.is(w.name + " line of " + f, w.run.answer("told " + f + " 9") != Due.NONE ? 1 : 0, w.lined[f] ? 1 : 0);
        }
        if (w.imaged) due.is(w.name + " what waits is told", w.run.answer("check 5 50"), 0);
    }

    private static void edges(World w, String name) {
        int[][] each = candidates(w, name);
        List<int[]> refused = new ArrayList<>();
        String[] but = name.equals("check") ? new String[] {Probes.WAITING} : new String[0];
        Map<String, int[]> before = Probes.behind(w.run, but);
        int[] at = new int[each.length];
        boolean more = true;
        while (more) {
            int[] a = new int[5];
            for (int k = 0; k < each.length; k++) a[k] = each[k][at[k]];
            int want = refusal(w, name, a);
            String label = w.name + ": " + name + Arrays.toString(Arrays.copyOf(a, each.length));
            int got = w.run.thenCall(name, a).last();
            if (want != FINE) {
                due.is(label, got, want);
                refused.add(a);
            } else if (!name.equals("seed") && !name.equals("count")) {
                due.is(label + " is refused by " + got, got >= Due.SIZE && got <= Due.BAD && got != Due.NONE ? 1 : 0, 0);
            }
            more = false;
            for (int k = 0; k < each.length && !more; k++) {
                at[k] = (at[k] + 1) % each[k].length;
                more = at[k] != 0;
            }
        }
        for (int from = 0; from < refused.size(); from += GROUP) {
            Run run = w.run;
            for (int[] a : refused.subList(from, Math.min(refused.size(), from + GROUP))) run = run.thenCall(name, a);
            String changed = Probes.difference(before, Probes.behind(run, but));
            due.is(w.name + ": refused " + name + " changed: " + changed, changed.length(), 0);
            if (name.equals("check")) due.is(w.name + ": none wait", run.answer("tell 5"), 1);
        }
    }

    /** A TEXT with a FAULT and a TEXT too many: the tape is used up, nothing else is other than it was. */
    private static void texts(World w) {
        boolean full = w.texts == 14;
        String[] tapes = {"", "odd", "working 12 n", "odd c", "spread n+", "  ", "odd 12345"};
        int[] wants = {-100, -103, -108, full ? Due.FULL : w.texts, -109, -102, -104};
        Run emptied = w.run.then("trim 0");
        Map<String, int[]> before = Probes.behind(emptied);
        for (int k = 0; k < tapes.length; k++) {
            Run run = w.run.then("text " + tapes[k]);
            due.is(w.name + ": text " + tapes[k], run.last(), wants[k]);
            due.is(w.name + ": used up", run.answer("count 10"), 0);
            if (wants[k] < 0) due.is(w.name + ": text " + tapes[k] + " changed", Probes.difference(before, Probes.behind(run)).length(), 0);
        }
    }

    private static boolean within(int v, int least, int most) {
        return v >= least && v <= most;
    }

    /** What stands in the document for a call: the first refusal that holds, or FINE. */
    private static int refusal(World w, String name, int[] a) {
        switch (name) {
            case "table": return !within(a[0], 0, 59) ? Due.BAD
                : w.years.length > 0 && a[0] < w.years[w.years.length - 1] ? Due.NO : w.years.length == 12 ? Due.FULL : FINE;
            case "figure": return ofFigure(w, a);
            case "told": return bad(figure(w, a[0]) && within(a[1], 0, 10));
            case "as": return !figure(w, a[0]) || !within(a[1], 0, 7) ? Due.BAD : isUnder(w.kind[a[0]], a[1]) ? FINE : Due.KIND;
            case "turns": return bad(figure(w, a[0]) && within(a[1], 0, 7));
            case "base": return bad(within(a[0], 0, 9999));
            case "feed": return w.bytes + 12 > 96 ? Due.FULL : FINE;
            case "trim": return bad(within(a[0], 0, w.bytes));
            case "of": return bad(within(a[0], 0, w.texts - 1) && within(a[1], 0, 2));
            case "why": return bad(a[0] == 1 || a[0] == 2 || a[0] == 0 && within(a[1], 0, 11));
            case "line": return ofLine(w, a);
            case "run": return bad(within(a[0], 0, 5) && within(a[1], 1, 4) && within(a[2], 0, 2));
            case "soon": return bad(within(a[0], 2, 12) && within(a[1], 1, 4));
            case "digit": return bad(within(a[0], 0, 9));
            case "choose": return !figure(w, a[0]) ? Due.BAD : World.holds(w.chosen, a[0]) ? Due.NO : w.chosen.length == 6 ? Due.FULL : FINE;
            case "story": return bad(within(a[0], 0, 6) && within(a[1], 0, 1 + w.chosen.length));
            case "road": return bad(within(a[0], 0, 5) && within(a[1], 0, 5) && a[0] != a[1] && within(a[2], 0, 30));
            case "far": return bad(within(a[0], 0, 5) && within(a[1], 0, 5));
            case "diary": return !within(a[0], 0, 9999) || !within(a[1], 0, 5) ? Due.BAD : World.holds(w.days, a[0]) ? Due.NO : w.days.length == 20 ? Due.FULL : FINE;
            case "could": return bad(within(a[0], 0, 5) && within(a[1], 0, 9999) && within(a[2], 1, 99));
            case "leaner": return a[0] < 0 || a[0] >= 1 << w.years.length || a[1] < 0 || a[1] >= 1 << w.leaners || !within(a[2], 0, 28) ? Due.BAD
                : w.leaners == 16 ? Due.FULL : FINE;
            case "falls": case "left": return bad(within(a[0], 0, 4095));
            case "source": return !within(a[0], 0, 65535) ? Due.BAD : w.sources == 8 ? Due.FULL : FINE;
            case "next": return bad(within(a[0], 1, 255));
            case "heard": return bad(within(a[0], 0, 255) && within(a[1], 0, w.sources - 1) && within(a[2], 0, 3));
            case "share": return bad(isLands(a[0]) && within(a[1], 1, 999) && within(a[2], 2, 12) && within(a[3], 1, 4));
            case "tell": return w.waits == 60 ? Due.FULL : FINE;
            case "check": return !within(a[0], 2, 12) || !within(a[1], 1, 999) ? Due.BAD : w.imaged ? FINE : Due.NO;
            case "back": return w.imaged ? FINE : Due.NO;
            case "count": return bad(within(a[0], 0, 11));
            default: return ofSheets(w, name, a);
        }
    }

    private static int ofSheets(World w, String name, int[] a) {
        switch (name) {
            case "sheet": return !sheet(a[0]) || !within(a[1], -1, 1) || a[1] != -1 && a[2] > 24 ? Due.BAD : a[1] != -1 && a[2] < 0 ? Due.SIZE : FINE;
            case "mark": return !sheet(a[0]) ? Due.BAD : w.sort[a[0]] < 0 ? Due.NOTHING : !within(a[1], 0, w.size[a[0]] - 1) ? Due.INDEX
                : w.sort[a[0]] == 1 && a[2] == Due.NONE ? Due.KIND : w.sort[a[0]] == 0 && a[2] != Due.NONE && !within(a[2], -99999, 99999) ? Due.BAD : FINE;
            case "print": return !within(a[0], 0, w.years.length - 1) || !sheet(a[1]) || !within(a[2], 1, 999) ? Due.BAD
                : w.sort[a[1]] < 0 ? Due.NOTHING : w.table.length + w.values[a[1]] > 40 ? Due.FULL : FINE;
            case "copy": return !sheet(a[0]) || !sheet(a[2]) ? Due.BAD : w.sort[a[0]] < 0 || w.sort[a[2]] < 0 ? Due.NOTHING
                : w.sort[a[0]] != w.sort[a[2]] ? Due.KIND
                : a[4] < 0 || a[1] < 0 || a[3] < 0 || (long) a[1] + a[4] > w.size[a[0]] || (long) a[3] + a[4] > w.size[a[2]] ? Due.INDEX : FINE;
            case "lay": return !slot(a[0]) || !within(a[1], 0, 3) || a[1] == 1 && !figure(w, a[2]) || a[1] == 2 && !sheet(a[2]) ? Due.BAD
                : a[1] == 2 && w.sort[a[2]] < 0 ? Due.NOTHING : FINE;
            case "ask": return !slot(a[0]) || !within(a[1], 0, 7) ? Due.BAD : w.thing[a[0]] == 0 ? Due.NOTHING
                : w.thing[a[0]] != 1 || !isUnder(w.slotKind[a[0]], a[1]) ? Due.KIND : FINE;
            case "item": return !slot(a[0]) ? Due.BAD : w.thing[a[0]] == 0 ? Due.NOTHING : w.thing[a[0]] != 2 ? Due.KIND
                : !within(a[1], 0, w.slotSize[a[0]] - 1) ? Due.INDEX : a[1] == w.noNumber[a[0]] ? Due.KIND : FINE;
            case "rest": return !slot(a[0]) ? Due.BAD : w.thing[a[0]] == 0 ? Due.NOTHING : w.thing[a[0]] != 3 ? Due.KIND : a[1] == 0 ? Due.NO : FINE;
            default: return FINE;
        }
    }

    private static int bad(boolean fine) {
        return fine ? FINE : Due.BAD;
    }

    private static boolean figure(World w, int f) {
        return within(f, 0, w.table.length - 1);
    }

    private static boolean sheet(int s) {
        return within(s, 0, 3);
    }

    private static boolean slot(int s) {
        return within(s, 0, 4);
    }

    private static boolean isLands(int told) {
        for (int m = 1; m <= 200; m++) for (int k = 2; k <= 12; k++) if (told == 100 * m + k) return true;
        return false;
    }

    private static boolean isUnder(int kind, int other) {
        return other == 0 || kind == other || kind == 3 && other == 2 || kind == 7 && other == 6;
    }

    private static int ofFigure(World w, int[] a) {
        boolean from = a[4] == -1 || figure(w, a[4]) && w.table[a[4]] <= a[0];
        if (!within(a[0], 0, w.years.length - 1) || !within(a[1], 0, 7) || !within(a[2], 0, 9999) || !within(a[3], 1, 999) || !from) return Due.BAD;
        return w.table.length == 40 ? Due.FULL : FINE;
    }

    private static int ofLine(World w, int[] a) {
        if (!within(a[0], 0, 5) || !figure(w, a[1])) return Due.BAD;
        return w.lined[a[1]] || w.table[a[1]] <= w.lastTable[a[0]] ? Due.NO : FINE;
    }

    // ---- the edges of each argument

    private static int[] edge(int least, int most, int... others) {
        Set<Integer> all = new LinkedHashSet<>(List.of(MIN, least - 1, least, most, most + 1, MAX));
        for (int other : others) all.add(other);
        return all.stream().mapToInt(Integer::intValue).toArray();
    }

    private static int[] every(int least, int most) {
        int[] all = new int[most - least + 1];
        for (int k = 0; k < all.length; k++) all[k] = least + k;
        return all;
    }

    private static int[][] candidates(World w, String name) {
        int[] figures = edge(0, w.table.length - 1, 40, 1, 4, 5, 7, 8, 9);
        int[] tables = edge(0, w.years.length - 1, 1, 11, 12);
        int[] pairs = edge(1, 999);
        int[] places = edge(0, 5);
        switch (name) {
            case "table": return new int[][] {every(-2, 62)};
            case "figure": return new int[][] {tables, {-1, 0, 7, 8}, {-1, 0, 9999, 10000}, {0, 1, 999, 1000}, edge(-1, w.table.length - 1, 0, 2, 4)};
            case "told": return new int[][] {figures, edge(0, 10)};
            case "as": case "turns": return new int[][] {figures, every(-1, 8)};
            case "base": return new int[][] {edge(0, 9999)};
            case "trim": return new int[][] {edge(0, w.bytes, 95, 96, 97)};
            case "of": return new int[][] {edge(0, w.texts - 1, 13, 14), edge(0, 2)};
            case "why": return new int[][] {edge(0, 2), edge(0, 11)};
            case "line": return new int[][] {edge(0, 5, 1, 2), figures};
            case "run": return new int[][] {edge(0, 5), edge(1, 4), edge(0, 2)};
            case "soon": return new int[][] {edge(2, 12), edge(1, 4)};
            case "digit": return new int[][] {edge(0, 9)};
            case "choose": return new int[][] {figures};
            case "story": return new int[][] {edge(0, 6), edge(0, 1 + w.chosen.length, 7, 8)};
            case "road": return new int[][] {places, places, edge(0, 30)};
            case "far": return new int[][] {places, places};
            case "diary": return new int[][] {edge(0, 9999, 10, 15, 9998), places};
            case "could": return new int[][] {places, edge(0, 9999), edge(1, 99)};
            case "leaner": return new int[][] {edge(0, (1 << w.years.length) - 1, 4096), edge(0, (1 << w.leaners) - 1, 65536), edge(0, 28)};
            case "falls": case "left": return new int[][] {edge(0, 4095)};
            case "source": return new int[][] {edge(0, 65535)};
            case "next": return new int[][] {edge(1, 255)};
            case "heard": return new int[][] {edge(0, 255), edge(0, w.sources - 1), edge(0, 3)};
            case "share": return new int[][] {{MIN, -102, 0, 2, 100, 101, 102, 112, 113, 199, 20001, 20002, 20012, 20013, 20102, MAX}, pairs, edge(2, 12), edge(1, 4)};
            case "check": return new int[][] {edge(2, 12), pairs};
            case "count": return new int[][] {edge(0, 11)};
            case "feed": case "tell": case "seed": return new int[][] {{MIN, -1, 0, 1, MAX, Due.BAD}};
            default: return ofSheets(w, name);
        }
    }

    private static int[][] ofSheets(World w, String name) {
        int[] sheets = edge(0, 3, 1, 2);
        int[] slots = edge(0, 4, 1, 2, 3);
        switch (name) {
            case "sheet": return new int[][] {sheets, edge(-1, 1, 0), edge(0, 24)};
            case "mark": return new int[][] {sheets, edge(0, 23, 2, 3, 5, 6), edge(-99999, 99999, Due.NONE, Due.BAD, 32768, -32769)};
            case "print": return new int[][] {edge(0, w.years.length - 1, 12), sheets, edge(1, 999)};
            case "copy": return new int[][] {{-1, 0, 1, 2, 3, 4}, {-1, 0, 3, 6, 7, 24, 25, MAX}, {-1, 0, 1, 2, 3, 4}, {-1, 0, 3, 6, 7, 24, 25, MAX}, {MIN, -1, 0, 1, 3, 6, 7, 24, 25, MAX}};
            case "lay": return new int[][] {slots, edge(0, 3, 1, 2), edge(0, w.table.length - 1, 1, 2, 3, 4)};
            case "ask": return new int[][] {slots, every(-1, 8)};
            case "item": return new int[][] {slots, edge(0, 23, 2, 3, 5, 6, 25)};
            case "rest": return new int[][] {slots, {MIN, -1, 0, 1, MAX}};
            default: return new int[][] {{0}};
        }
    }
}
