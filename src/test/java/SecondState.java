import java.util.ArrayList;
import java.util.Arrays;
import java.util.List;
import java.util.TreeMap;

/** What AN IMAGE keeps, and what the document's terms say of it, in their plainest form. */
final class SecondState {
    record Figure(int table, int kind, int value, int pairs, int from) { }

    record Leaner(int tables, int leaners, int needs) { }

    final List<Integer> years = new ArrayList<>();
    final List<Figure> figures = new ArrayList<>();
    final List<SecondText> texts = new ArrayList<>();
    final List<List<Integer>> lines = new ArrayList<>();
    final List<Integer> chosen = new ArrayList<>();
    final int[][] roads = new int[6][6];
    final TreeMap<Integer, Integer> diary = new TreeMap<>();
    final List<Leaner> leaners = new ArrayList<>();
    final List<Integer> sources = new ArrayList<>();
    int base = 7700;
    int z = 1;

    SecondState() {
        for (int k = 0; k < 6; k++) lines.add(new ArrayList<>());
    }

    SecondState copied() {
        SecondState other = new SecondState();
        other.years.addAll(years);
        other.figures.addAll(figures);
        other.texts.addAll(texts);
        for (int k = 0; k < 6; k++) other.lines.get(k).addAll(lines.get(k));
        other.chosen.addAll(chosen);
        for (int k = 0; k < 6; k++) other.roads[k] = roads[k].clone();
        other.diary.putAll(diary);
        other.leaners.addAll(leaners);
        other.sources.addAll(sources);
        other.base = base;
        other.z = z;
        return other;
    }

    Figure from(int figure) {
        int from = figures.get(figure).from();
        return from < 0 ? null : figures.get(from);
    }

    /** The number of the TEXT that counts, -1: none does. */
    int counting(int key, int table) {
        int found = -1;
        for (int k = 0; k < texts.size(); k++) {
            if (texts.get(k).key == key && (key != 0 || texts.get(k).table == table)) found = k;
        }
        return found;
    }

    SecondText working(int figure) {
        int text = counting(0, figures.get(figure).table());
        return text < 0 ? null : texts.get(text);
    }

    int worked(int figure) {
        int ahead = 0;
        for (Figure each : figures.subList(0, figure)) ahead += each.table() == figures.get(figure).table() ? 1 : 0;
        return working(figure).gives(figures.get(figure).pairs(), from(figure) == null ? 0 : from(figure).value(), ahead);
    }

    int spread(int pairs, int year) {
        int text = counting(1, 0);
        return text < 0 ? 10000 / pairs : Math.max(0, Math.min(9999, texts.get(text).gives(pairs, year)));
    }

    int spread(int figure) {
        return spread(figures.get(figure).pairs(), years.get(figures.get(figure).table()));
    }

    boolean fits(int figure, int kind) {
        return SecondKind.ALL[kind].fits(this, figure);
    }

    int withLast(int digit) {
        return (int) figures.stream().filter(each -> each.value() % 10 == digit).count();
    }

    int odd() {
        int bits = 0;
        int text = counting(2, 0);
        for (int digit = 0; digit < 10; digit++) {
            int c = withLast(digit);
            boolean odd = text < 0 ? c > figures.size() / 3 : texts.get(text).gives(c, digit, figures.size()) != 0;
            if (odd) bits += 1 << digit;
        }
        return bits;
    }

    // ---- what is alike

    static boolean alike(List<Integer> values, int p) {
        int power = (int) Math.round(Math.pow(10, 4 - p));
        return values.stream().map(each -> each / power).distinct().count() <= 1;
    }

    /** The longest row of VALUES one behind the other that are all ALIKE, the first of several: its first and the one behind it. */
    static int[] run(List<Integer> values, int p) {
        for (int many = values.size(); many > 0; many--) {
            for (int first = 0; first + many <= values.size(); first++) {
                if (alike(values.subList(first, first + many), p)) return new int[] {first, first + many};
            }
        }
        return new int[] {0, 0};
    }

    List<Integer> values(List<Integer> line) {
        return line.stream().map(each -> figures.get(each).value()).toList();
    }

    int odds(List<Integer> run) {
        java.math.BigInteger odds = java.math.BigInteger.ONE;
        for (int k = 1; k < run.size(); k++) odds = odds.multiply(java.math.BigInteger.valueOf(2L * spread(run.get(k)) + 1));
        return odds.min(java.math.BigInteger.valueOf(1000000000)).intValue();
    }

    int soon(int k, int p) {
        for (int year = 0; year < 60; year++) {
            for (List<Integer> line : lines) {
                int until = year;
                List<Integer> ahead = line.stream().filter(each -> years.get(figures.get(each).table()) <= until).toList();
                int[] run = run(values(ahead), p);
                if (run[1] - run[0] >= k) return year;
            }
        }
        return Due.NONE;
    }

    // ---- stories

    /** PRICES, how many UNKIND, the KINDS; null: there is none. All stories are looked through, in the document's order. */
    int[] story(int most) {
        return story(most, new int[chosen.size()], 0, null);
    }

    private int[] story(int most, int[] kinds, int at, int[] best) {
        if (at < kinds.length) {
            int[] found = best;
            for (kinds[at] = 1; kinds[at] <= 7; kinds[at]++) {
                if (fits(chosen.get(at), kinds[at])) found = story(most, kinds, at + 1, found);
            }
            return found;
        }
        int[] told = new int[2 + kinds.length];
        for (int k = 0; k < kinds.length; k++) {
            SecondKind kind = SecondKind.ALL[kinds[k]];
            told[0] += kind.price(figures.get(chosen.get(k)).pairs());
            told[1] += kind.isUnkind() ? 1 : 0;
            told[2 + k] = kinds[k];
        }
        if (told[1] > most) return best;
        boolean better = best == null || told[0] < best[0] || told[0] == best[0] && told[1] < best[1];
        return better ? told : best;
    }

    // ---- a life, what leans

    /** By all roads that come to no PLACE twice; -1: none. */
    int far(int one, int other, int been) {
        if (one == other) return 0;
        int least = -1;
        for (int by = 0; by < 6; by++) {
            if (roads[one][by] == 0 || (been >> by & 1) == 1) continue;
            int rest = far(by, other, been | 1 << one);
            if (rest >= 0 && (least < 0 || roads[one][by] + rest < least)) least = roads[one][by] + rest;
        }
        return least;
    }

    private boolean canCome(int one, int other, int days) {
        int far = far(one, other, 0);
        return far >= 0 && days >= far;
    }

    boolean could(int place, int day, int n) {
        int last = day + n - 1;
        for (int in : diary.subMap(day, true, last, true).values()) {
            if (in != place) return false;
        }
        Integer ahead = diary.floorKey(day);
        Integer behind = diary.higherKey(last);
        if (ahead != null && !canCome(diary.get(ahead), place, day - ahead)) return false;
        return behind == null || canCome(place, diary.get(behind), behind - last);
    }

    int falls(int tables) {
        boolean[] stands = new boolean[leaners.size()];
        int bits = 0;
        for (int k = 0; k < stands.length; k++) {
            int many = 0;
            for (int t = 0; t < 12; t++) if ((leaners.get(k).tables() >> t & 1) == 1 && (tables >> t & 1) == 0) many++;
            for (int l = 0; l < k; l++) if ((leaners.get(k).leaners() >> l & 1) == 1 && stands[l]) many++;
            stands[k] = many >= leaners.get(k).needs();
            if (!stands[k]) bits += 1 << k;
        }
        return bits;
    }

    int pillar() {
        int[] fall = new int[years.size()];
        for (int k = 0; k < fall.length; k++) fall[k] = Integer.bitCount(falls(1 << k));
        int most = Arrays.stream(fall).max().orElse(0);
        for (int k = 0; k < fall.length; k++) if (fall[k] == most) return k;
        return Due.NONE;
    }

    int heard(int tales, int source, int answer) {
        String told = Integer.toString((1 << 16) + sources.get(source), 4).substring(1); // eight digits, TALE 0 the last
        int left = 0;
        for (int tale = 0; tale < 8; tale++) {
            if ((tales >> tale & 1) == 1 && told.charAt(7 - tale) - '0' == answer) left += 1 << tale;
        }
        return left;
    }

    int next(int tales) {
        for (int most = 0; most <= 8; most++) {
            for (int k = 0; k < sources.size(); k++) {
                boolean fewer = true;
                for (int answer = 0; answer < 4; answer++) fewer &= Integer.bitCount(heard(tales, k, answer)) <= most;
                if (fewer) return k;
            }
        }
        return Due.NONE;
    }

    // ---- lands

    List<Integer> land(int k, int n) {
        List<Integer> values = new ArrayList<>();
        int s = spread(n, 0);
        for (int each : Lands.values(z, k, base, s)) values.add(each);
        z = Lands.seedBehind(z, k);
        return values;
    }
}
