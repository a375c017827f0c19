/** Tables of numbers that are too alike: how each number may have come, what leans on it, and when it could be known. */
public final class TwinTables {
    public static final int BAD = -1000000001, NO = -1000000002, FULL = -1000000003, NONE = -1000000005, NOTHING = -1000000011, KIND = -1000000012, INDEX = -1000000013, SIZE = -1000000014;

    private static final int TABLES = 12, FIGURES = 40, TEXTS = 14, TAPE = 96, LINES = 6, ROW = 12, TOLD = 6;
    private static final int PLACES = 6, ENTRIES = 20, LEANERS = 16, SOURCES = 8, TALES = 8;
    private static final int SHEETS = 4, CELLS = 24, SLOTS = 5, WAITING = 60;
    private static final int LAST_YEAR = 59, MOST_VALUE = 9999, MOST_PAIRS = 999, LAST_DAY = 9999, MOST_CELL = 99999;
    private static final int MOST_ODDS = 1000000000, MOST_LANDS = 200, NEAR = 50;

    private static final int FIGURE = 0, MEASURED = 1, WORKED = 2, ROUNDED = 3, CARRIED = 4, SLIPPED = 5, MADE = 6, FITTED = 7;
    /** The KIND that each KIND stands right under; -1 for FIGURE, which stands under none. */
    private static final int[] ABOVE = {-1, FIGURE, FIGURE, WORKED, FIGURE, FIGURE, FIGURE, MADE};
    /** By KIND: WORKED is FIGURE less 2, ROUNDED WORKED and 1, SLIPPED FIGURE and 3, MADE 4 times FIGURE, FITTED MADE. */
    private static final int[] PRICES = {5, 1, 3, 4, 2, 8, 20, 20};
    private static final int FITTED_PAIRS = 100;

    private static final int WORKING = 0, SPREAD = 1, ODD = 2;
    private static final String WORKING_WORD = "working", SPREAD_WORD = "spread", ODD_WORD = "odd";
    private static final String WORKING_NAMES = "nfi", SPREAD_NAMES = "ny", ODD_NAMES = "cda";

    /** By p: what VALUES are cut by before they are ALIKE to p places. */
    private static final int[] CUTS = {10000, 1000, 100, 10, 1};

    /** Sorts of a SHEET; that between them, 0, is of floats. */
    private static final int MISSING = -1, SHORTS = 1;
    private static final int NO_THING = 0, A_FIGURE = 1, A_SHEET = 2, A_NUMBER = 3;

    private final State now = new State();
    private final State image = new State();
    private boolean imaged;
    private final Tape tape = new Tape();
    private final int[] waiting = new int[WAITING];
    private int waits;
    private final Sheet[] sheets = new Sheet[SHEETS];
    private final Slot[] slots = new Slot[SLOTS];

    public TwinTables() {
        for (int k = 0; k < SHEETS; k++) sheets[k] = new Sheet();
        for (int k = 0; k < SLOTS; k++) slots[k] = new Slot();
    }

    // ---- tables, figures

    public int table(int year) {
        if (!within(year, 0, LAST_YEAR)) return BAD;
        return now.figures.addTable(year);
    }

    public int figure(int table, int kind, int value, int pairs, int from) {
        Figures figures = now.figures;
        if (!figures.hasTable(table) || !isKind(kind) || !within(value, 0, MOST_VALUE) || !arePairs(pairs)) return BAD;
        if (from != -1 && (!figures.has(from) || figures.table[from] > table)) return BAD;
        if (figures.count >= FIGURES) return FULL;
        return figures.add(table, kind, value, pairs, from);
    }

    public int told(int figure, int what) {
        Figures figures = now.figures;
        if (!figures.has(figure)) return BAD;
        switch (what) {
            case 0: return figures.table[figure];
            case 1: return figures.kind[figure];
            case 2: return figures.value[figure];
            case 3: return figures.pairs[figure];
            case 4: return figures.from[figure] < 0 ? NONE : figures.from[figure];
            case 5: return now.fits(figure, figures.kind[figure]) ? 1 : 0;
            case 6: return price(figures.kind[figure], figures.pairs[figure]);
            case 7: return now.spreadOf(figure);
            case 8: return now.isWorked(figure) ? now.worked(figure) : NONE;
            case 9: return now.lines.holder(figure);
            case 10: return figures.yearOf(figure);
            default: return BAD;
        }
    }

    public int as(int figure, int kind) {
        if (!now.figures.has(figure) || !isKind(kind)) return BAD;
        return isOfKind(now.figures.kind[figure], kind) ? now.figures.value[figure] : KIND;
    }

    public int turns(int figure, int kind) {
        if (!now.figures.has(figure) || !isKind(kind)) return BAD;
        int old = now.figures.kind[figure];
        now.figures.kind[figure] = kind;
        return old;
    }

    public int base(int v) {
        if (!within(v, 0, MOST_VALUE)) return BAD;
        int old = now.base;
        now.base = v;
        return old;
    }

    // ---- texts

    public int feed(int a, int b, int c) {
        if (tape.count + 12 > TAPE) return FULL;
        tape.add(a);
        tape.add(b);
        tape.add(c);
        return tape.count;
    }

    public int trim(int n) {
        if (!within(n, 0, tape.count)) return BAD;
        tape.count = n;
        return n;
    }

    public int text() {
        tape.readText();
        tape.count = 0;
        if (tape.fault >= 0) return -100 - tape.fault;
        return now.texts.add(tape);
    }

    public int of(int text, int what) {
        Texts texts = now.texts;
        if (!within(text, 0, texts.count - 1)) return BAD;
        switch (what) {
            case 0: return texts.key[text];
            case 1: return texts.table[text];
            case 2: return texts.leaves[text];
            default: return BAD;
        }
    }

    public int why(int key, int table) {
        if (!within(key, WORKING, ODD)) return BAD;
        if (key == WORKING && !within(table, 0, TABLES - 1)) return BAD;
        return now.texts.latest(key, table);
    }

    // ---- what is alike

    public int line(int line, int figure) {
        Figures figures = now.figures;
        Lines lines = now.lines;
        if (!within(line, 0, LINES - 1) || !figures.has(figure)) return BAD;
        if (lines.holder(figure) != NONE) return NO;
        int last = lines.lastOf(line);
        if (figures.has(last) && figures.table[figure] <= figures.table[last]) return NO;
        return lines.append(line, figure);
    }

    public int run(int line, int p, int what) {
        if (!within(line, 0, LINES - 1) || !arePlaces(p) || !within(what, 0, 2)) return BAD;
        int many = now.layLine(line);
        int length = longest(now.row, many, p);
        if (what == 0) return length;
        int first = reach(now.row, many, p, length) - length + 1;
        if (what == 1) return length < 1 ? NONE : now.lines.at(line, first);
        return now.odds(line, first, length);
    }

    public int soon(int k, int p) {
        if (!within(k, 2, ROW) || !arePlaces(p)) return BAD;
        int least = NONE;
        for (int line = 0; line < LINES; line++) {
            int many = now.layLine(line);
            int figure = now.lines.at(line, reach(now.row, many, p, k));
            if (!now.figures.has(figure)) continue;
            int year = now.figures.yearOf(figure);
            if (least == NONE || year < least) least = year;
        }
        return least;
    }

    public int even() {
        int sum = 0;
        for (int digit = 0; digit < 10; digit++) {
            int off = 10 * now.figures.withLast(digit) - now.figures.count;
            sum += off * off;
        }
        return sum;
    }

    public int digit(int digit) {
        if (!within(digit, 0, 9)) return BAD;
        return now.figures.withLast(digit);
    }

    public int odd() {
        int bits = 0;
        for (int digit = 0; digit < 10; digit++) {
            if (now.isOdd(digit)) bits |= 1 << digit;
        }
        return bits;
    }

    // ---- stories

    public int choose(int figure) {
        if (!now.figures.has(figure)) return BAD;
        for (int k = 0; k < now.told; k++) {
            if (now.chosen[k] == figure) return NO;
        }
        if (now.told >= TOLD) return FULL;
        now.chosen[now.told] = figure;
        now.told++;
        return now.told;
    }

    public int story(int u, int what) {
        if (!within(u, 0, TOLD) || !within(what, 0, 1 + now.told)) return BAD;
        int prices = 0;
        int unkind = 0;
        for (int k = 0; k < now.told; k++) {
            int kind = now.cheapestKind(now.chosen[k]);
            prices += price(kind, now.figures.pairs[now.chosen[k]]);
            if (isUnkind(kind)) unkind++;
        }
        if (unkind > u) return NONE;
        if (what == 0) return prices;
        if (what == 1) return unkind;
        return now.cheapestKind(now.chosen[what - 2]);
    }

    public int clear() {
        int old = now.told;
        now.told = 0;
        return old;
    }

    // ---- a life, what leans

    public int road(int one, int other, int n) {
        if (!isPlace(one) || !isPlace(other) || one == other || !within(n, 0, 30)) return BAD;
        return now.life.setRoad(one, other, n);
    }

    public int far(int one, int other) {
        if (!isPlace(one) || !isPlace(other)) return BAD;
        return now.life.leastDays(one, other);
    }

    public int diary(int day, int place) {
        if (!within(day, 0, LAST_DAY) || !isPlace(place)) return BAD;
        return now.life.write(day, place);
    }

    public int could(int place, int day, int n) {
        if (!isPlace(place) || !within(day, 0, LAST_DAY) || !within(n, 1, 99)) return BAD;
        return now.life.allows(place, day, day + n - 1) ? 1 : 0;
    }

    public int leaner(int tables, int leaners, int needs) {
        Leaning leaning = now.leaning;
        if ((tables & ~lowBits(now.figures.tables)) != 0) return BAD;
        if ((leaners & ~lowBits(leaning.leaners)) != 0) return BAD;
        if (!within(needs, 0, TABLES + LEANERS)) return BAD;
        return leaning.addLeaner(tables, leaners, needs);
    }

    public int falls(int tables) {
        if (!within(tables, 0, lowBits(TABLES))) return BAD;
        return now.leaning.fallen(tables);
    }

    public int left(int tables) {
        if (!within(tables, 0, lowBits(TABLES))) return BAD;
        return lowBits(now.leaning.leaners) & ~now.leaning.fallen(tables);
    }

    public int pillar() {
        int best = NONE;
        int most = -1;
        for (int table = 0; table < now.figures.tables; table++) {
            int many = Integer.bitCount(now.leaning.fallen(1 << table));
            if (many > most) {
                most = many;
                best = table;
            }
        }
        return best;
    }

    public int source(int tells) {
        if (!within(tells, 0, lowBits(2 * TALES))) return BAD;
        return now.leaning.addSource(tells);
    }

    public int next(int tales) {
        if (!within(tales, 1, lowBits(TALES))) return BAD;
        return now.leaning.bestSource(tales);
    }

    public int heard(int tales, int source, int answer) {
        if (!within(tales, 0, lowBits(TALES)) || !within(source, 0, now.leaning.sources - 1) || !within(answer, 0, 3)) return BAD;
        return now.leaning.agreeing(tales, source, answer);
    }

    // ---- lands

    public int seed(int v) {
        int old = now.z;
        now.z = v;
        return old;
    }

    public int share(int lands, int n, int r, int p) {
        int many = lands / 100;
        int tables = lands % 100;
        if (!within(many, 1, MOST_LANDS) || !areLandTables(tables) || !arePairs(n)) return BAD;
        if (!within(r, 2, ROW) || !arePlaces(p)) return BAD;
        int found = 0;
        for (int land = 0; land < many; land++) {
            now.drawLand(tables, n);
            if (reach(now.row, tables, p, r) >= 0) found++;
        }
        return found;
    }

    // ---- sheets, slots

    public int sheet(int sheet, int sort, int n) {
        if (!isSheet(sheet) || !within(sort, MISSING, SHORTS)) return BAD;
        if (sort == MISSING) return sheets[sheet].renew(MISSING, 0);
        if (n > CELLS) return BAD;
        if (n < 0) return SIZE;
        return sheets[sheet].renew(sort, n);
    }

    public int mark(int sheet, int place, int v) {
        if (!isSheet(sheet)) return BAD;
        Sheet row = sheets[sheet];
        if (row.sort == MISSING) return NOTHING;
        if (!row.has(place)) return INDEX;
        if (row.sort == SHORTS) {
            if (v == NONE) return KIND;
            row.cells[place] = (short) v;
            return 1;
        }
        if (v != NONE && !within(v, -MOST_CELL, MOST_CELL)) return BAD;
        row.cells[place] = v;
        return 1;
    }

    public int print(int table, int sheet, int n) {
        if (!now.figures.hasTable(table) || !isSheet(sheet) || !arePairs(n)) return BAD;
        Sheet row = sheets[sheet];
        if (row.sort == MISSING) return NOTHING;
        int many = row.values();
        if (now.figures.count + many > FIGURES) return FULL;
        for (int k = 0; k < many; k++) now.figures.add(table, MEASURED, row.cells[k], n, -1);
        return many;
    }

    public int copy(int from, int place, int to, int at, int many) {
        if (!isSheet(from) || !isSheet(to)) return BAD;
        Sheet giver = sheets[from];
        Sheet taker = sheets[to];
        if (giver.sort == MISSING || taker.sort == MISSING) return NOTHING;
        if (giver.sort != taker.sort) return KIND;
        if (!giver.hasRow(place, many) || !taker.hasRow(at, many)) return INDEX;
        System.arraycopy(giver.cells, place, taker.cells, at, many);
        return many;
    }

    public int lay(int slot, int thing, int k) {
        if (!isSlot(slot) || !within(thing, NO_THING, A_NUMBER)) return BAD;
        if (thing == A_FIGURE && !now.figures.has(k)) return BAD;
        if (thing == A_SHEET && !isSheet(k)) return BAD;
        if (thing == A_SHEET && sheets[k].sort == MISSING) return NOTHING;
        Slot held = slots[slot];
        int old = held.thing;
        held.thing = thing;
        if (thing == A_FIGURE) held.holdFigure(now.figures.kind[k], now.figures.pairs[k]);
        if (thing == A_SHEET) held.sheet.become(sheets[k]);
        if (thing == A_NUMBER) held.number = k;
        return old;
    }

    public int ask(int slot, int kind) {
        if (!isSlot(slot) || !isKind(kind)) return BAD;
        Slot held = slots[slot];
        if (held.thing == NO_THING) return NOTHING;
        if (held.thing != A_FIGURE || !isOfKind(held.kind, kind)) return KIND;
        return price(held.kind, held.pairs);
    }

    public int item(int slot, int place) {
        if (!isSlot(slot)) return BAD;
        Slot held = slots[slot];
        if (held.thing == NO_THING) return NOTHING;
        if (held.thing != A_SHEET) return KIND;
        if (!held.sheet.has(place)) return INDEX;
        return held.sheet.cells[place] == NONE ? KIND : held.sheet.cells[place];
    }

    public int rest(int slot, int n) {
        if (!isSlot(slot)) return BAD;
        Slot held = slots[slot];
        if (held.thing == NO_THING) return NOTHING;
        if (held.thing != A_NUMBER) return KIND;
        if (n == 0) return NO;
        return held.number % n;
    }

    // ---- rows, images

    public int tell(int v) {
        if (waits >= WAITING) return FULL;
        waiting[waits] = v;
        waits++;
        return waits;
    }

    public int check(int k, int n) {
        int many = waits;
        waits = 0;
        if (!areLandTables(k) || !arePairs(n)) return BAD;
        if (!imaged) return NO;
        int z = image.z;
        image.drawLand(k, n);
        image.z = z; // what is told goes on from THE IMAGE anew each time
        int same = 0;
        while (same < k && same < many && waiting[same] == image.row[same]) same++;
        return same == k && same == many ? 0 : 1 + same;
    }

    public int keep() {
        image.become(now);
        imaged = true;
        return now.figures.count;
    }

    public int back() {
        if (!imaged) return NO;
        now.become(image);
        return now.figures.count;
    }

    public int count(int what) {
        switch (what) {
            case 0: return now.figures.tables;
            case 1: return now.figures.count;
            case 2: return now.fitting();
            case 3: return now.figures.unkind();
            case 4: return now.texts.count;
            case 5: return now.told;
            case 6: return now.life.entries;
            case 7: return now.leaning.leaners;
            case 8: return now.leaning.sources;
            case 9: return waits;
            case 10: return tape.count;
            case 11: return now.z;
            default: return BAD;
        }
    }

    // ---- what several of these need

    private static boolean within(int v, int least, int most) {
        return v >= least && v <= most;
    }

    private static int holdWithin(int v, int least, int most) {
        return v < least ? least : v > most ? most : v;
    }

    private static boolean isKind(int kind) {
        return within(kind, FIGURE, FITTED);
    }

    private static boolean arePairs(int pairs) {
        return within(pairs, 1, MOST_PAIRS);
    }

    private static boolean arePlaces(int p) {
        return within(p, 1, 4);
    }

    private static boolean areLandTables(int tables) {
        return within(tables, 2, TABLES);
    }

    private static boolean isPlace(int place) {
        return within(place, 0, PLACES - 1);
    }

    private static boolean isSheet(int sheet) {
        return within(sheet, 0, SHEETS - 1);
    }

    private static boolean isSlot(int slot) {
        return within(slot, 0, SLOTS - 1);
    }

    /** The lowest bits, so many (0 .. 30) of them. */
    private static int lowBits(int many) {
        return (1 << many) - 1;
    }

    /** Whether a KIND is another one or stands under it, however far. */
    private static boolean isOfKind(int kind, int other) {
        int above = kind;
        for (int step = 0; step <= FITTED && isKind(above); step++) {
            if (above == other) return true;
            above = ABOVE[above];
        }
        return false;
    }

    private static boolean isUnkind(int kind) {
        return isOfKind(kind, MADE);
    }

    private static int price(int kind, int pairs) {
        if (!isKind(kind)) return 0;
        return kind == FITTED ? PRICES[kind] + pairs / FITTED_PAIRS : PRICES[kind];
    }

    /** The place in a row of VALUES at which k ALIKE to p places first stand one behind the other; -1: nowhere. */
    private static int reach(int[] row, int many, int p, int k) {
        int cut = arePlaces(p) ? CUTS[p] : CUTS[0];
        int same = 0;
        for (int at = 0; at < many && at < row.length; at++) {
            boolean alike = at > 0 && row[at] / cut == row[at - 1] / cut;
            same = alike ? same + 1 : 1;
            if (same >= k) return at;
        }
        return -1;
    }

    private static int longest(int[] row, int many, int p) {
        int length = 0;
        while (length < many && reach(row, many, p, length + 1) >= 0) length++;
        return length;
    }

    /** All that an image keeps. */
    private static final class State {
        final Figures figures = new Figures();
        final Texts texts = new Texts();
        final Lines lines = new Lines();
        final Life life = new Life();
        final Leaning leaning = new Leaning();
        final int[] chosen = new int[TOLD];
        int told;
        int base = 7700;
        int z = 1;
        /** The VALUES of a LINE or a LAND, laid there by the call that needs them; no part of the state. */
        final int[] row = new int[ROW];

        void become(State other) {
            figures.become(other.figures);
            texts.become(other.texts);
            lines.become(other.lines);
            life.become(other.life);
            leaning.become(other.leaning);
            System.arraycopy(other.chosen, 0, chosen, 0, TOLD);
            told = other.told;
            base = other.base;
            z = other.z;
        }

        int spreadFor(int pairs, int year) {
            int text = texts.latest(SPREAD, 0);
            if (text != NONE) return holdWithin(texts.give(text, pairs, year, 0), 0, MOST_VALUE);
            return pairs > 0 ? 10000 / pairs : 0;
        }

        int spreadOf(int figure) {
            return spreadFor(figures.pairs[figure], figures.yearOf(figure));
        }

        boolean isWorked(int figure) {
            return texts.latest(WORKING, figures.table[figure]) != NONE;
        }

        int worked(int figure) {
            int text = texts.latest(WORKING, figures.table[figure]);
            int from = figures.from[figure];
            int fromValue = figures.has(from) ? figures.value[from] : 0;
            return texts.give(text, figures.pairs[figure], fromValue, figures.aheadOf(figure));
        }

        private boolean isWorkedWithin(int figure, int most) {
            if (!isWorked(figure)) return false;
            long off = (long) worked(figure) - figures.value[figure];
            return off >= -most && off <= most;
        }

        boolean fits(int figure, int kind) {
            int value = figures.value[figure];
            int from = figures.from[figure];
            int fromValue = figures.has(from) ? figures.value[from] : -1;
            switch (kind) {
                case MEASURED: return Math.abs(value - base) <= spreadOf(figure);
                case WORKED: return isWorkedWithin(figure, 0);
                case ROUNDED: return isWorkedWithin(figure, NEAR);
                case CARRIED: return fromValue == value;
                case SLIPPED: return fromValue >= 0 && unlikeDigits(value, fromValue) == 1;
                case FITTED: return fromValue >= 0 && (value + fromValue) % 2 == 0;
                default: return true;
            }
        }

        private static int unlikeDigits(int one, int other) {
            int unlike = 0;
            for (int p = 1; p <= 4; p++) {
                if (one / CUTS[p] % 10 != other / CUTS[p] % 10) unlike++;
            }
            return unlike;
        }

        int fitting() {
            int many = 0;
            for (int figure = 0; figure < figures.count; figure++) {
                if (fits(figure, figures.kind[figure])) many++;
            }
            return many;
        }

        boolean isOdd(int digit) {
            int many = figures.withLast(digit);
            int text = texts.latest(ODD, 0);
            if (text == NONE) return many > figures.count / 3;
            return texts.give(text, many, digit, figures.count) != 0;
        }

        /** Lays the VALUES of a LINE into the row: how many. */
        int layLine(int line) {
            int many = lines.lengthOf(line);
            for (int k = 0; k < many; k++) {
                int figure = lines.at(line, k);
                if (figures.has(figure)) row[k] = figures.value[figure];
            }
            return many;
        }

        int odds(int line, int first, int length) {
            long odds = 1;
            for (int k = 1; k < length; k++) {
                int figure = lines.at(line, first + k);
                if (figures.has(figure)) odds = Math.min(odds * (2 * spreadOf(figure) + 1), MOST_ODDS);
            }
            return (int) odds;
        }

        /**
         * Of the KINDS that fit the one with the least PRICE, then the least. An UNKIND one costs more than any other,
         * so it comes only where no other fits: THE STORY is made of these, or there is none with so few UNKIND ones.
         */
        int cheapestKind(int figure) {
            int best = MADE;
            for (int kind = FITTED; kind >= MEASURED; kind--) {
                int pairs = figures.pairs[figure];
                if (fits(figure, kind) && price(kind, pairs) <= price(best, pairs)) best = kind;
            }
            return best;
        }

        private int draw() {
            z = z * 1103515245 + 12345;
            return z >>> 8;
        }

        /** Lays the VALUES of a LAND into the row. */
        void drawLand(int tables, int pairs) {
            int spread = spreadFor(pairs, 0);
            int wide = Math.max(2 * spread + 1, 1);
            for (int k = 0; k < tables && k < ROW; k++) row[k] = holdWithin(base - spread + draw() % wide, 0, MOST_VALUE);
        }
    }

    private static final class Figures {
        int tables;
        final int[] year = new int[TABLES];
        int count;
        final int[] table = new int[FIGURES];
        final int[] kind = new int[FIGURES];
        final int[] value = new int[FIGURES];
        final int[] pairs = new int[FIGURES];
        final int[] from = new int[FIGURES];

        void become(Figures other) {
            tables = other.tables;
            System.arraycopy(other.year, 0, year, 0, TABLES);
            count = other.count;
            System.arraycopy(other.table, 0, table, 0, FIGURES);
            System.arraycopy(other.kind, 0, kind, 0, FIGURES);
            System.arraycopy(other.value, 0, value, 0, FIGURES);
            System.arraycopy(other.pairs, 0, pairs, 0, FIGURES);
            System.arraycopy(other.from, 0, from, 0, FIGURES);
        }

        boolean hasTable(int number) {
            return number >= 0 && number < tables;
        }

        boolean has(int number) {
            return number >= 0 && number < count;
        }

        int addTable(int itsYear) {
            if (tables > 0 && itsYear < year[tables - 1]) return NO;
            if (tables >= TABLES) return FULL;
            year[tables] = itsYear;
            tables++;
            return tables - 1;
        }

        int add(int itsTable, int itsKind, int itsValue, int itsPairs, int itsFrom) {
            if (count >= FIGURES) return FULL;
            table[count] = itsTable;
            kind[count] = itsKind;
            value[count] = itsValue;
            pairs[count] = itsPairs;
            from[count] = itsFrom;
            count++;
            return count - 1;
        }

        int yearOf(int figure) {
            return year[table[figure]];
        }

        int aheadOf(int figure) {
            int many = 0;
            for (int k = 0; k < figure; k++) {
                if (table[k] == table[figure]) many++;
            }
            return many;
        }

        int withLast(int digit) {
            int many = 0;
            for (int k = 0; k < count; k++) {
                if (value[k] % 10 == digit) many++;
            }
            return many;
        }

        int unkind() {
            int many = 0;
            for (int k = 0; k < count; k++) {
                if (isUnkind(kind[k])) many++;
            }
            return many;
        }
    }

    /** Each TEXT as steps in the order in which they are worked: see Tape for what a step is. */
    private static final class Texts {
        int count;
        final int[] key = new int[TEXTS];
        final int[] table = new int[TEXTS];
        final int[] leaves = new int[TEXTS];
        final int[] length = new int[TEXTS];
        final int[] steps = new int[TEXTS * TAPE];
        /** What is worked out so far while a TEXT gives; no part of the state. */
        private final int[] stack = new int[TAPE];

        void become(Texts other) {
            count = other.count;
            System.arraycopy(other.key, 0, key, 0, TEXTS);
            System.arraycopy(other.table, 0, table, 0, TEXTS);
            System.arraycopy(other.leaves, 0, leaves, 0, TEXTS);
            System.arraycopy(other.length, 0, length, 0, TEXTS);
            System.arraycopy(other.steps, 0, steps, 0, TEXTS * TAPE);
        }

        int add(Tape read) {
            if (count >= TEXTS) return FULL;
            key[count] = read.key;
            table[count] = read.table;
            leaves[count] = read.leaves;
            length[count] = read.many;
            System.arraycopy(read.steps, 0, steps, count * TAPE, TAPE);
            count++;
            return count - 1;
        }

        /** The TEXT that counts; its TABLE matters for a working alone. */
        int latest(int itsKey, int itsTable) {
            for (int k = count - 1; k >= 0; k--) {
                if (key[k] == itsKey && (itsKey != WORKING || table[k] == itsTable)) return k;
            }
            return NONE;
        }

        /** What a TEXT gives if its NAMES, as its key lists them, stand for these three. */
        int give(int text, int first, int second, int third) {
            if (text < 0 || text >= count) return 0;
            int top = 0;
            for (int k = 0; k < length[text]; k++) {
                int step = steps[text * TAPE + k];
                if (step >= -3) {
                    if (top >= TAPE) return 0;
                    stack[top] = step >= 0 ? step : step == -1 ? first : step == -2 ? second : third;
                    top++;
                } else if (step == -'!') {
                    if (top < 1) return 0;
                    stack[top - 1] = stack[top - 1] == 0 ? 1 : 0;
                } else {
                    if (top < 2) return 0;
                    stack[top - 2] = join(-step, stack[top - 2], stack[top - 1]);
                    top--;
                }
            }
            return top > 0 ? stack[top - 1] : 0;
        }

        private static int join(int sign, int one, int other) {
            switch (sign) {
                case '+': return one + other;
                case '-': return one - other;
                case '*': return one * other;
                case '/': return other == 0 ? 0 : one / other;
                case '<': return one < other ? 1 : 0;
                case '=': return one == other ? 1 : 0;
                case '>': return one > other ? 1 : 0;
                case '&': return one != 0 && other != 0 ? 1 : 0;
                case '|': return one != 0 || other != 0 ? 1 : 0;
                default: return 0;
            }
        }
    }

    /**
     * THE TAPE and the reading of it. A step of what is read is a NUMBER (0 and more), a NAME (-1, -2, -3, by its place
     * among those of the key) or a sign (less its byte, always below -3), each sign behind what it joins.
     */
    private static final class Tape {
        private static final int END = 0, LETTERS = 1, DIGITS = 2, SIGN = 3, STUCK = 4;
        private static final int OR = 0, AND = 1, TEST = 2, SUM = 3, TERM = 4, PIECE = 5;
        private static final int DEEPEST = 8, MOST_DIGITS = 4;

        final byte[] bytes = new byte[TAPE];
        int count;
        int fault;
        int key;
        int table;
        int leaves;
        final int[] steps = new int[TAPE];
        int many;
        /** The word or sign that is looked at: where it begins, the place behind it, what it is. */
        private int at;
        private int behind;
        private int sort;

        void add(int four) {
            for (int shift = 24; shift >= 0 && count < TAPE; shift -= 8) {
                bytes[count] = (byte) (four >>> shift);
                count++;
            }
        }

        /** Reads the bytes as a TEXT: fault is the place of its FAULT, -1 if it has none. */
        void readText() {
            fault = -1;
            many = 0;
            leaves = 0;
            behind = 0;
            sort = SIGN;
            forward();
            readHead();
            if (fault < 0) readLevel(OR, 0, 0);
            if (fault < 0 && sort != END) fault = at;
        }

        private void readHead() {
            key = keyHere();
            table = NONE;
            if (key < 0) {
                fault = at;
                return;
            }
            forward();
            if (key != WORKING) return;
            if (!isNumberHere() || numberHere() >= TABLES) {
                fault = at;
                return;
            }
            table = numberHere();
            forward();
        }

        /** From one level on, the loosest being OR; how many ( and ! are open is carried along. */
        private void readLevel(int level, int open, int nots) {
            if (level >= PIECE) {
                readPiece(open, nots);
                return;
            }
            readLevel(level + 1, open, nots);
            int most = level == TEST ? 1 : TAPE;
            for (int k = 0; k < most && fault < 0 && joins(level, signHere()); k++) {
                int sign = signHere();
                forward();
                readLevel(level + 1, open, nots);
                put(-sign);
            }
        }

        private void readPiece(int open, int nots) {
            int sign = signHere();
            if (sign == '!' && nots < DEEPEST) {
                forward();
                readPiece(open, nots + 1);
                put(-sign);
            } else if (sign == '(' && open < DEEPEST) {
                forward();
                readLevel(OR, open + 1, nots);
                if (fault < 0) readClosing();
            } else {
                readLeaf();
            }
        }

        private void readClosing() {
            if (signHere() == ')') forward();
            else fault = at;
        }

        private void readLeaf() {
            int name = nameHere();
            if (isNumberHere()) {
                put(numberHere());
            } else if (name >= 0) {
                put(-1 - name);
            } else {
                fault = at;
                return;
            }
            leaves++;
            forward();
        }

        private void put(int step) {
            if (many >= TAPE) return;
            steps[many] = step;
            many++;
        }

        private static boolean joins(int level, int sign) {
            switch (sign) {
                case '|': return level == OR;
                case '&': return level == AND;
                case '<': case '=': case '>': return level == TEST;
                case '+': case '-': return level == SUM;
                case '*': case '/': return level == TERM;
                default: return false;
            }
        }

        /** Goes to the next word or sign, or to the end; a word without the blank that it needs is STUCK. */
        private void forward() {
            boolean behindWord = sort == LETTERS || sort == DIGITS;
            at = behind;
            while (at < count && bytes[at] == ' ') at++;
            boolean blank = at > behind;
            behind = at;
            sort = sortAt(at);
            if (sort == END) return;
            behind++;
            if (sort == SIGN) return;
            while (behind < count && sortAt(behind) == sort) behind++;
            if (behindWord && !blank) sort = STUCK;
        }

        private int sortAt(int place) {
            if (place < 0 || place >= count) return END;
            int sign = bytes[place];
            if (sign >= 'a' && sign <= 'z') return LETTERS;
            return sign >= '0' && sign <= '9' ? DIGITS : SIGN;
        }

        /** The sign that is looked at; 0, which no TEXT has, if it is none. */
        private int signHere() {
            return sort == SIGN && at < count ? bytes[at] : 0;
        }

        private boolean isNumberHere() {
            return sort == DIGITS && behind - at <= MOST_DIGITS;
        }

        private int numberHere() {
            int number = 0;
            for (int k = at; k < behind && k < count; k++) number = number * 10 + bytes[k] - '0';
            return number;
        }

        /** The place of the NAME that is looked at among those of the key; -1: it is none of these. */
        private int nameHere() {
            if (sort != LETTERS || behind - at != 1) return -1;
            String names = key == WORKING ? WORKING_NAMES : key == SPREAD ? SPREAD_NAMES : ODD_NAMES;
            return names.indexOf((char) bytes[at]);
        }

        private int keyHere() {
            if (isWordHere(WORKING_WORD)) return WORKING;
            if (isWordHere(SPREAD_WORD)) return SPREAD;
            return isWordHere(ODD_WORD) ? ODD : -1;
        }

        private boolean isWordHere(String word) {
            if (sort != LETTERS || behind - at != word.length()) return false;
            for (int k = 0; k < word.length(); k++) {
                if (bytes[at + k] != word.charAt(k)) return false;
            }
            return true;
        }
    }

    private static final class Lines {
        final int[] length = new int[LINES];
        final int[] figures = new int[LINES * ROW];

        void become(Lines other) {
            System.arraycopy(other.length, 0, length, 0, LINES);
            System.arraycopy(other.figures, 0, figures, 0, LINES * ROW);
        }

        int lengthOf(int line) {
            return line >= 0 && line < LINES ? length[line] : 0;
        }

        /** A FIGURE of a LINE by its place; NONE: there is no such place. */
        int at(int line, int place) {
            return place >= 0 && place < lengthOf(line) ? figures[line * ROW + place] : NONE;
        }

        int lastOf(int line) {
            return at(line, lengthOf(line) - 1);
        }

        /** The LINE in which a FIGURE is, or NONE. */
        int holder(int figure) {
            for (int line = 0; line < LINES; line++) {
                for (int k = 0; k < length[line]; k++) {
                    if (figures[line * ROW + k] == figure) return line;
                }
            }
            return NONE;
        }

        int append(int line, int figure) {
            if (lengthOf(line) >= ROW) return FULL;
            figures[line * ROW + length[line]] = figure;
            length[line]++;
            return length[line];
        }
    }

    private static final class Life {
        private static final int NEVER = 1000000;

        /** DAYS of the ROAD from a PLACE (by rows) to another one; 0: none. */
        final int[] roads = new int[PLACES * PLACES];
        int entries;
        final int[] day = new int[ENTRIES];
        final int[] place = new int[ENTRIES];
        /** The least DAYS to each PLACE found so far while one is looked for; no part of the state. */
        private final int[] found = new int[PLACES];

        void become(Life other) {
            System.arraycopy(other.roads, 0, roads, 0, PLACES * PLACES);
            entries = other.entries;
            System.arraycopy(other.day, 0, day, 0, ENTRIES);
            System.arraycopy(other.place, 0, place, 0, ENTRIES);
        }

        int setRoad(int one, int other, int days) {
            int old = roads[one * PLACES + other];
            roads[one * PLACES + other] = days;
            roads[other * PLACES + one] = days;
            return old;
        }

        int leastDays(int one, int other) {
            for (int k = 0; k < PLACES; k++) found[k] = k == one ? 0 : NEVER;
            for (int round = 1; round < PLACES; round++) goOneRoadOn();
            return found[other] >= NEVER ? NONE : found[other];
        }

        private void goOneRoadOn() {
            for (int one = 0; one < PLACES; one++) {
                for (int other = 0; other < PLACES; other++) {
                    int days = roads[one * PLACES + other];
                    if (days > 0) found[other] = Math.min(found[other], found[one] + days);
                }
            }
        }

        int write(int itsDay, int itsPlace) {
            for (int k = 0; k < entries; k++) {
                if (day[k] == itsDay) return NO;
            }
            if (entries >= ENTRIES) return FULL;
            day[entries] = itsDay;
            place[entries] = itsPlace;
            entries++;
            return entries;
        }

        boolean allows(int there, int first, int last) {
            int latest = -1;
            int next = -1;
            for (int k = 0; k < entries; k++) {
                if (day[k] >= first && day[k] <= last && place[k] != there) return false;
                if (day[k] <= first && (latest < 0 || day[k] > day[latest])) latest = k;
                if (day[k] > last && (next < 0 || day[k] < day[next])) next = k;
            }
            if (latest >= 0 && !canGo(place[latest], there, first - day[latest])) return false;
            return next < 0 || canGo(there, place[next], day[next] - last);
        }

        private boolean canGo(int one, int other, int days) {
            int least = leastDays(one, other);
            return least != NONE && days >= least;
        }
    }

    /** LEANERS and SOURCES. */
    private static final class Leaning {
        int leaners;
        final int[] onTables = new int[LEANERS];
        final int[] onLeaners = new int[LEANERS];
        final int[] needs = new int[LEANERS];
        int sources;
        final int[] tells = new int[SOURCES];

        void become(Leaning other) {
            leaners = other.leaners;
            System.arraycopy(other.onTables, 0, onTables, 0, LEANERS);
            System.arraycopy(other.onLeaners, 0, onLeaners, 0, LEANERS);
            System.arraycopy(other.needs, 0, needs, 0, LEANERS);
            sources = other.sources;
            System.arraycopy(other.tells, 0, tells, 0, SOURCES);
        }

        int addLeaner(int tables, int others, int itsNeeds) {
            if (leaners >= LEANERS) return FULL;
            onTables[leaners] = tables;
            onLeaners[leaners] = others;
            needs[leaners] = itsNeeds;
            leaners++;
            return leaners - 1;
        }

        /** The LEANERS, as bits, that fall if these TABLES do. */
        int fallen(int tables) {
            int down = 0;
            for (int k = 0; k < leaners; k++) {
                int standing = Integer.bitCount(onTables[k] & ~tables) + Integer.bitCount(onLeaners[k] & ~down);
                if (standing < needs[k]) down |= 1 << k;
            }
            return down;
        }

        int addSource(int itsTells) {
            if (sources >= SOURCES) return FULL;
            tells[sources] = itsTells;
            sources++;
            return sources - 1;
        }

        /** Those of the TALES, as bits, of which a SOURCE tells the answer. */
        int agreeing(int tales, int source, int answer) {
            int bits = 0;
            for (int tale = 0; tale < TALES; tale++) {
                boolean asked = (tales >> tale & 1) == 1;
                if (asked && (tells[source] >> 2 * tale & 3) == answer) bits |= 1 << tale;
            }
            return bits;
        }

        private int mostLeft(int tales, int source) {
            int most = 0;
            for (int answer = 0; answer < 4; answer++) {
                most = Math.max(most, Integer.bitCount(agreeing(tales, source, answer)));
            }
            return most;
        }

        int bestSource(int tales) {
            int best = NONE;
            int fewest = TALES + 1;
            for (int source = 0; source < sources; source++) {
                int most = mostLeft(tales, source);
                if (most < fewest) {
                    fewest = most;
                    best = source;
                }
            }
            return best;
        }
    }

    /** A row of numbers; NO NUMBER is kept as NONE, which no place can otherwise hold. */
    private static final class Sheet {
        int sort = MISSING;
        int size;
        final int[] cells = new int[CELLS];

        void become(Sheet other) {
            sort = other.sort;
            size = other.size;
            System.arraycopy(other.cells, 0, cells, 0, CELLS);
        }

        int renew(int itsSort, int itsSize) {
            sort = itsSort;
            size = itsSize;
            for (int k = 0; k < CELLS; k++) cells[k] = 0;
            return itsSize;
        }

        boolean has(int place) {
            return place >= 0 && place < size;
        }

        /** Whether so many places from one on are all there; from the place behind the last one on, none are. */
        boolean hasRow(int place, int many) {
            return place >= 0 && place <= size && many >= 0 && many <= size - place;
        }

        /** How many places from the first on can be VALUES. */
        int values() {
            int many = 0;
            while (many < size && within(cells[many], 0, MOST_VALUE)) many++;
            return many;
        }
    }

    private static final class Slot {
        int thing = NO_THING;
        int kind;
        int pairs;
        int number;
        final Sheet sheet = new Sheet();

        void holdFigure(int itsKind, int itsPairs) {
            kind = itsKind;
            pairs = itsPairs;
        }
    }
}
