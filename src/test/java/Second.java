import java.util.ArrayList;
import java.util.Collections;
import java.util.List;

/** A second reading of the whole document, for the answers of runs of calls: written for plainness, not for room or speed. */
final class Second {
    /** A row of a SHEET; null in it is NO NUMBER. */
    private record Row(int sort, List<Integer> cells) { }

    private SecondState now = new SecondState();
    private SecondState image;
    private String tape = "";
    private final List<Integer> waiting = new ArrayList<>();
    private final Row[] sheets = new Row[4];
    private final Object[] slots = new Object[5];

    int call(String name, int[] a) {
        switch (name) {
            case "table": case "figure": case "told": case "as": case "turns": case "base": return tables(name, a);
            case "feed": case "trim": case "text": case "of": case "why": return texts(name, a);
            case "line": case "run": case "soon": case "even": case "digit": case "odd": return alike(name, a);
            case "choose": case "story": case "clear": return stories(name, a);
            case "road": case "far": case "diary": case "could": return life(name, a);
            case "leaner": case "falls": case "left": case "pillar": case "source": case "next": case "heard": return leaning(name, a);
            case "seed": case "share": return lands(name, a);
            case "sheet": case "mark": case "print": case "copy": return sheets(name, a);
            case "lay": case "ask": case "item": case "rest": return slots(name, a);
            default: return rows(name, a);
        }
    }

    private static boolean in(int v, int least, int most) {
        return least <= v && v <= most;
    }

    private static boolean isIn(int v, List<?> row) {
        return in(v, 0, row.size() - 1);
    }

    private static int orNone(int v) {
        return v < 0 ? Due.NONE : v;
    }

    private int tables(String name, int[] a) {
        List<SecondState.Figure> figures = now.figures;
        switch (name) {
            case "table":
                if (!in(a[0], 0, 59)) return Due.BAD;
                if (!now.years.isEmpty() && a[0] < Collections.max(now.years)) return Due.NO;
                if (now.years.size() == 12) return Due.FULL;
                now.years.add(a[0]);
                return now.years.size() - 1;
            case "figure":
                if (!isIn(a[0], now.years) || !in(a[1], 0, 7) || !in(a[2], 0, 9999) || !in(a[3], 1, 999)) return Due.BAD;
                if (a[4] != -1 && (!isIn(a[4], figures) || figures.get(a[4]).table() > a[0])) return Due.BAD;
                if (figures.size() == 40) return Due.FULL;
                figures.add(new SecondState.Figure(a[0], a[1], a[2], a[3], a[4]));
                return figures.size() - 1;
            case "told": return isIn(a[0], figures) ? told(a[0], a[1]) : Due.BAD;
            case "as":
                if (!isIn(a[0], figures) || !in(a[1], 0, 7)) return Due.BAD;
                return SecondKind.ALL[figures.get(a[0]).kind()].isOf(SecondKind.ALL[a[1]]) ? figures.get(a[0]).value() : Due.KIND;
            case "turns":
                if (!isIn(a[0], figures) || !in(a[1], 0, 7)) return Due.BAD;
                SecondState.Figure was = figures.get(a[0]);
                figures.set(a[0], new SecondState.Figure(was.table(), a[1], was.value(), was.pairs(), was.from()));
                return was.kind();
            default:
                if (!in(a[0], 0, 9999)) return Due.BAD;
                int old = now.base;
                now.base = a[0];
                return old;
        }
    }

    private int told(int k, int what) {
        SecondState.Figure figure = now.figures.get(k);
        switch (what) {
            case 0: return figure.table();
            case 1: return figure.kind();
            case 2: return figure.value();
            case 3: return figure.pairs();
            case 4: return orNone(figure.from());
            case 5: return now.fits(k, figure.kind()) ? 1 : 0;
            case 6: return SecondKind.ALL[figure.kind()].price(figure.pairs());
            case 7: return now.spread(k);
            case 8: return now.working(k) == null ? Due.NONE : now.worked(k);
            case 9:
                for (int line = 0; line < 6; line++) if (now.lines.get(line).contains(k)) return line;
                return Due.NONE;
            case 10: return now.years.get(figure.table());
            default: return Due.BAD;
        }
    }

    private int texts(String name, int[] a) {
        switch (name) {
            case "feed":
                if (tape.length() + 12 > 96) return Due.FULL;
                for (int k = 0; k < 12; k++) tape += (char) (a[k / 4] >> 8 * (3 - k % 4) & 255);
                return tape.length();
            case "trim":
                if (!in(a[0], 0, tape.length())) return Due.BAD;
                tape = tape.substring(0, a[0]);
                return a[0];
            case "text":
                String read = tape;
                tape = "";
                SecondText text = SecondText.read(read);
                if (text == null) return -100 - SecondText.fault(read);
                if (now.texts.size() == 14) return Due.FULL;
                now.texts.add(text);
                return now.texts.size() - 1;
            case "of":
                if (!isIn(a[0], now.texts) || !in(a[1], 0, 2)) return Due.BAD;
                SecondText of = now.texts.get(a[0]);
                return new int[] {of.key, of.table, of.leaves}[a[1]];
            default:
                if (!in(a[0], 0, 2) || a[0] == 0 && !in(a[1], 0, 11)) return Due.BAD;
                return orNone(now.counting(a[0], a[1]));
        }
    }

    private int alike(String name, int[] a) {
        switch (name) {
            case "line":
                if (!in(a[0], 0, 5) || !isIn(a[1], now.figures)) return Due.BAD;
                List<Integer> line = now.lines.get(a[0]);
                for (List<Integer> each : now.lines) if (each.contains(a[1])) return Due.NO;
                for (int each : line) if (now.figures.get(each).table() >= now.figures.get(a[1]).table()) return Due.NO;
                if (line.size() == 12) return Due.FULL;
                line.add(a[1]);
                return line.size();
            case "run":
                if (!in(a[0], 0, 5) || !in(a[1], 1, 4) || !in(a[2], 0, 2)) return Due.BAD;
                int[] ends = SecondState.run(now.values(now.lines.get(a[0])), a[1]);
                List<Integer> run = now.lines.get(a[0]).subList(ends[0], ends[1]);
                if (a[2] == 0) return run.size();
                if (a[2] == 1) return run.isEmpty() ? Due.NONE : run.get(0);
                return now.odds(run);
            case "soon": return in(a[0], 2, 12) && in(a[1], 1, 4) ? now.soon(a[0], a[1]) : Due.BAD;
            case "even":
                int sum = 0;
                for (int digit = 0; digit < 10; digit++) sum += Math.pow(10 * now.withLast(digit) - now.figures.size(), 2);
                return sum;
            case "digit": return in(a[0], 0, 9) ? now.withLast(a[0]) : Due.BAD;
            default: return now.odd();
        }
    }

    private int stories(String name, int[] a) {
        switch (name) {
            case "choose":
                if (!isIn(a[0], now.figures)) return Due.BAD;
                if (now.chosen.contains(a[0])) return Due.NO;
                if (now.chosen.size() == 6) return Due.FULL;
                now.chosen.add(a[0]);
                return now.chosen.size();
            case "story":
                if (!in(a[0], 0, 6) || !in(a[1], 0, 1 + now.chosen.size())) return Due.BAD;
                int[] story = now.story(a[0]);
                return story == null ? Due.NONE : story[a[1]];
            default:
                int were = now.chosen.size();
                now.chosen.clear();
                return were;
        }
    }

    private int life(String name, int[] a) {
        switch (name) {
            case "road":
                if (!in(a[0], 0, 5) || !in(a[1], 0, 5) || a[0] == a[1] || !in(a[2], 0, 30)) return Due.BAD;
                int were = now.roads[a[0]][a[1]];
                now.roads[a[0]][a[1]] = a[2];
                now.roads[a[1]][a[0]] = a[2];
                return were;
            case "far": return in(a[0], 0, 5) && in(a[1], 0, 5) ? orNone(now.far(a[0], a[1], 0)) : Due.BAD;
            case "diary":
                if (!in(a[0], 0, 9999) || !in(a[1], 0, 5)) return Due.BAD;
                if (now.diary.containsKey(a[0])) return Due.NO;
                if (now.diary.size() == 20) return Due.FULL;
                now.diary.put(a[0], a[1]);
                return now.diary.size();
            default:
                if (!in(a[0], 0, 5) || !in(a[1], 0, 9999) || !in(a[2], 1, 99)) return Due.BAD;
                return now.could(a[0], a[1], a[2]) ? 1 : 0;
        }
    }

    private int leaning(String name, int[] a) {
        switch (name) {
            case "leaner":
                if (a[0] < 0 || a[0] >= 1 << now.years.size() || a[1] < 0 || a[1] >= 1 << now.leaners.size() || !in(a[2], 0, 28)) return Due.BAD;
                if (now.leaners.size() == 16) return Due.FULL;
                now.leaners.add(new SecondState.Leaner(a[0], a[1], a[2]));
                return now.leaners.size() - 1;
            case "falls": return in(a[0], 0, 4095) ? now.falls(a[0]) : Due.BAD;
            case "left": return in(a[0], 0, 4095) ? (1 << now.leaners.size()) - 1 - now.falls(a[0]) : Due.BAD;
            case "pillar": return now.pillar();
            case "source":
                if (!in(a[0], 0, 65535)) return Due.BAD;
                if (now.sources.size() == 8) return Due.FULL;
                now.sources.add(a[0]);
                return now.sources.size() - 1;
            case "next": return in(a[0], 1, 255) ? now.next(a[0]) : Due.BAD;
            default:
                if (!in(a[0], 0, 255) || !isIn(a[1], now.sources) || !in(a[2], 0, 3)) return Due.BAD;
                return now.heard(a[0], a[1], a[2]);
        }
    }

    private int lands(String name, int[] a) {
        if (name.equals("seed")) {
            int was = now.z;
            now.z = a[0];
            return was;
        }
        int k = a[0] % 100;
        int m = a[0] / 100;
        if (!in(m, 1, 200) || !in(k, 2, 12) || !in(a[1], 1, 999) || !in(a[2], 2, 12) || !in(a[3], 1, 4)) return Due.BAD;
        int many = 0;
        for (int land = 0; land < m; land++) {
            int[] run = SecondState.run(now.land(k, a[1]), a[3]);
            if (run[1] - run[0] >= a[2]) many++;
        }
        return many;
    }

    private int sheets(String name, int[] a) {
        switch (name) {
            case "sheet":
                if (!in(a[0], 0, 3) || !in(a[1], -1, 1) || a[1] >= 0 && a[2] > 24) return Due.BAD;
                if (a[1] >= 0 && a[2] < 0) return Due.SIZE;
                sheets[a[0]] = a[1] < 0 ? null : new Row(a[1], new ArrayList<>(Collections.nCopies(a[2], 0)));
                return a[1] < 0 ? 0 : a[2];
            case "mark":
                if (!in(a[0], 0, 3)) return Due.BAD;
                Row row = sheets[a[0]];
                if (row == null) return Due.NOTHING;
                if (!isIn(a[1], row.cells)) return Due.INDEX;
                if (row.sort == 1 && a[2] == Due.NONE) return Due.KIND;
                if (row.sort == 0 && a[2] != Due.NONE && !in(a[2], -99999, 99999)) return Due.BAD;
                row.cells.set(a[1], marked(row.sort, a[2]));
                return 1;
            case "print":
                if (!isIn(a[0], now.years) || !in(a[1], 0, 3) || !in(a[2], 1, 999)) return Due.BAD;
                if (sheets[a[1]] == null) return Due.NOTHING;
                List<Integer> values = sheets[a[1]].cells;
                int many = 0;
                while (many < values.size() && values.get(many) != null && in(values.get(many), 0, 9999)) many++;
                if (now.figures.size() + many > 40) return Due.FULL;
                for (int value : values.subList(0, many)) now.figures.add(new SecondState.Figure(a[0], 1, value, a[2], -1));
                return many;
            default: return copy(a);
        }
    }

    private static Integer marked(int sort, int v) {
        if (sort == 0 && v == Due.NONE) return null;
        int low = v & 65535;
        return sort == 0 ? v : low > 32767 ? low - 65536 : low;
    }

    private int copy(int[] a) {
        if (!in(a[0], 0, 3) || !in(a[2], 0, 3)) return Due.BAD;
        Row giver = sheets[a[0]];
        Row taker = sheets[a[2]];
        if (giver == null || taker == null) return Due.NOTHING;
        if (giver.sort != taker.sort) return Due.KIND;
        boolean there = a[4] >= 0 && a[1] >= 0 && a[3] >= 0 && (long) a[1] + a[4] <= giver.cells.size() && (long) a[3] + a[4] <= taker.cells.size();
        if (!there) return Due.INDEX;
        List<Integer> were = new ArrayList<>(giver.cells.subList(a[1], a[1] + a[4]));
        for (int k = 0; k < a[4]; k++) taker.cells.set(a[3] + k, were.get(k));
        return a[4];
    }

    private int slots(String name, int[] a) {
        if (!in(a[0], 0, 4)) return Due.BAD;
        Object held = slots[a[0]];
        if (name.equals("lay")) return lay(a, held);
        if (name.equals("ask") && !in(a[1], 0, 7)) return Due.BAD;
        if (held == null) return Due.NOTHING;
        if (name.equals("ask")) {
            if (!(held instanceof SecondState.Figure figure)) return Due.KIND;
            SecondKind kind = SecondKind.ALL[figure.kind()];
            return kind.isOf(SecondKind.ALL[a[1]]) ? kind.price(figure.pairs()) : Due.KIND;
        }
        if (name.equals("item")) {
            if (!(held instanceof Row row)) return Due.KIND;
            if (!isIn(a[1], row.cells)) return Due.INDEX;
            return row.cells.get(a[1]) == null ? Due.KIND : row.cells.get(a[1]);
        }
        if (!(held instanceof Integer number)) return Due.KIND;
        return a[1] == 0 ? Due.NO : (int) ((long) number % a[1]);
    }

    private int lay(int[] a, Object held) {
        if (!in(a[1], 0, 3)) return Due.BAD;
        if (a[1] == 1 && !isIn(a[2], now.figures) || a[1] == 2 && !in(a[2], 0, 3)) return Due.BAD;
        if (a[1] == 2 && sheets[a[2]] == null) return Due.NOTHING;
        switch (a[1]) {
            case 0: slots[a[0]] = null; break;
            case 1: slots[a[0]] = now.figures.get(a[2]); break;
            case 2: slots[a[0]] = new Row(sheets[a[2]].sort, new ArrayList<>(sheets[a[2]].cells)); break;
            default: slots[a[0]] = a[2];
        }
        return held == null ? 0 : held instanceof SecondState.Figure ? 1 : held instanceof Row ? 2 : 3;
    }

    private int rows(String name, int[] a) {
        switch (name) {
            case "tell":
                if (waiting.size() == 60) return Due.FULL;
                waiting.add(a[0]);
                return waiting.size();
            case "check":
                List<Integer> waited = new ArrayList<>(waiting);
                waiting.clear();
                if (!in(a[0], 2, 12) || !in(a[1], 1, 999)) return Due.BAD;
                if (image == null) return Due.NO;
                List<Integer> told = image.copied().land(a[0], a[1]);
                if (waited.equals(told)) return 0;
                int right = 0;
                while (right < Math.min(waited.size(), told.size()) && waited.get(right).equals(told.get(right))) right++;
                return 1 + right;
            case "keep":
                image = now.copied();
                return now.figures.size();
            case "back":
                if (image == null) return Due.NO;
                now = image.copied();
                return now.figures.size();
            default: return count(a[0]);
        }
    }

    private int count(int what) {
        int fit = 0;
        int unkind = 0;
        for (int k = 0; k < now.figures.size(); k++) {
            fit += now.fits(k, now.figures.get(k).kind()) ? 1 : 0;
            unkind += SecondKind.ALL[now.figures.get(k).kind()].isUnkind() ? 1 : 0;
        }
        int[] all = {now.years.size(), now.figures.size(), fit, unkind, now.texts.size(), now.chosen.size(), now.diary.size(),
            now.leaners.size(), now.sources.size(), waiting.size(), tape.length(), now.z};
        return in(what, 0, 11) ? all[what] : Due.BAD;
    }

    // ---- what a maker of calls may look at, so that many of them go through

    int many(int what) {
        return count(what);
    }

    List<Integer> landOfImage(int k, int n) {
        return image == null ? List.of() : image.copied().land(k, n);
    }
}
