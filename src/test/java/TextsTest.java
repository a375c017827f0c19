import java.util.Random;

/** Promises 8 to 12: feed, trim, text, of, why. */
public final class TextsTest {
    private static final Due due = new Due();

    public static void main(String[] args) {
        tape();
        faults();
        oneBehindTheOther();
        full();
        ofAndWhy();
        spreads();
        odds();
        randomWorkings(new Random(1));
        randomFaults(new Random(2));
        due.end();
    }

    private static void tape() {
        TwinTables x = new TwinTables();
        due.is("trim(0)", x.trim(0), 0);
        due.is("trim(1)", x.trim(1), Due.BAD);
        due.is("trim(-1)", x.trim(-1), Due.BAD);
        for (int k = 1; k <= 8; k++) due.is("feed", x.feed(-1, 0, 7), 12 * k);
        due.is("feed full", x.feed(0, 0, 0), Due.FULL);
        due.is("bytes", x.count(10), 96);
        due.is("trim(97)", x.trim(97), Due.BAD);
        due.is("trim(85)", x.trim(85), 85);
        due.is("feed full", x.feed(0, 0, 0), Due.FULL);
        due.is("trim(84)", x.trim(84), 84);
        due.is("feed", x.feed(0, 0, 0), 96);
        due.is("text", x.text(), -100);
        due.is("used up", x.count(10), 0);
        due.is("feed", x.feed(0x6f646420, 0x63202020, 0x20202020), 12);
        due.is("odd c", x.text(), 0);
        due.is("used up", x.count(10), 0);
        String longest = "odd " + "c+".repeat(45) + "d ";
        Due.feed(x, longest);
        due.is("whole tape", x.count(10), 96);
        due.is("whole tape", x.text(), 1);
        due.is("names", x.of(1, 2), 46);
    }

    private static void fault(String s, int place) {
        TwinTables x = new TwinTables();
        int want = place < 0 ? 0 : -100 - place;
        due.is('"' + s + '"', Due.text(x, s), want);
        due.is("tape behind " + s, x.count(10), 0);
        due.is("texts behind " + s, x.count(4), place < 0 ? 1 : 0);
        due.is("oracle of " + s, firstFault(s), place);
    }

    private static void faults() {
        fault("", 0);
        fault("   ", 3);
        fault("workings 1 n", 0);
        fault(" oddc", 1);
        fault("oddz", 0);
        fault("oda c", 0);
        fault("xdd c", 0);
        fault("apread 5", 0);
        fault("odd z", 4);
        fault("odd", 3);
        fault("odd  ", 5);
        fault("odd(c)", -1);
        fault("  odd ( c )  ", -1);
        fault("odd c c", 6);
        fault("odd cc", 4);
        fault("odd 12c", 6);
        fault("odd c12", 5);
        fault("odd 12 c", 7);
        fault("odd 12345", 4);
        fault("odd 1234", -1);
        fault("odd 0000", -1);
        fault("odd 00000", 4);
        fault("odd n", 4);
        fault("odd C", 4);
        fault("odd c\u00e9", 5);
        fault("odd c\t", 5);
        fault("odd c\u0000", 5);
        fault("odd -c", 4);
        fault("odd c-", 6);
        fault("odd c=d=a", 7);
        fault("odd (c=d)=a", -1);
        fault("odd c=d&d<a|a>c", -1);
        fault("odd c=d+d<a", 9);
        fault("odd (c", 6);
        fault("odd (c))", 7);
        fault("odd ()", 5);
        fault("odd )", 4);
        fault("odd c!", 5);
        fault("odd !", 5);
        fault("odd !!!!!!!!c", -1);
        fault("odd !!!!!!!!!c", 12);
        fault("odd ((((((((c))))))))", -1);
        fault("odd (((((((((c)))))))))", 12);
        fault("odd !(!(!(!(!(!(!(!(c))))))))", -1);
        fault("odd !(!(!(!(!(!(!(!(!c))))))))", 20);
        fault("odd !(!(!(!(!(!(!(!((c)))))))))", 20);
        fault("odd !!!!!!!!c+!!!!!!!!d", -1);
        fault("odd !!!!(!!!!c)+!!!!!!!!d", -1);
        fault("odd !!!!(!!!!!c)", 13);
        fault("odd ((((((((c))))))))*((((((((c))))))))", -1);
        fault("odd (((c)))*(((((((((c", 20);
        fault("working", 7);
        fault("working 1", 9);
        fault("working 11 n", -1);
        fault("working 12 n", 8);
        fault("working 0011 n", -1);
        fault("working 00011 n", 8);
        fault("working 1(n)", -1);
        fault("working 1n", 9);
        fault("working1 n", 7);
        fault("working n", 8);
        fault("working (1) n", 8);
        fault("working 1 n+f*i", -1);
        fault("working 1 y", 10);
        fault("spread n+y", -1);
        fault("spread 5", -1);
        fault("spread5", 6);
        fault("spread i", 7);
        fault("odd c+d-a", -1);
        fault("odd y", 4);
        fault("1 odd c", 0);
        fault("odd c + d 5", 10);
        fault("odd c & & d", 8);
    }

    /** What one reading leaves behind does not reach the next one. */
    private static void oneBehindTheOther() {
        TwinTables x = Due.withTables(1);
        x.figure(0, 1, 5, 5, -1);
        due.is("ends in a word", Due.text(x, "odd n"), -104);
        due.is("right behind it", Due.text(x, "odd c"), 0);
        due.is("ends in digits", Due.text(x, "working 12 n"), -108);
        due.is("right behind it", Due.text(x, "working 0 1"), 1);
        for (int k = 2; k < 14; k++) {
            due.is("long", Due.text(x, "working 0 " + "1+".repeat(42) + k), k);
            due.is("long gives", x.told(0, 8), 42 + k);
            due.is("long has", x.of(k, 2), 43);
            Due.text(x, "working 0 n*n*n*n*n*n*n*n*(");
        }
    }

    private static void full() {
        TwinTables x = new TwinTables();
        for (int k = 0; k < 14; k++) due.is("text", Due.text(x, "odd " + k), k);
        due.is("fault first", Due.text(x, "odd +"), -104);
        due.is("full", Due.text(x, "odd 5"), Due.FULL);
        due.is("used up", x.count(10), 0);
        due.is("texts", x.count(4), 14);
        due.is("still", x.why(2, 0), 13);
    }

    private static void ofAndWhy() {
        TwinTables x = new TwinTables();
        Due.text(x, "working 7 n+n*(3-f)");
        Due.text(x, "spread 5");
        Due.text(x, "odd c&d|!a");
        Due.text(x, "working 7 i");
        Due.text(x, "working 11 0");
        int[][] want = {{0, 7, 4}, {1, Due.NONE, 1}, {2, Due.NONE, 3}, {0, 7, 1}, {0, 11, 1}};
        for (int text = 0; text < 5; text++) {
            for (int what = 0; what < 3; what++) due.is("of " + text, x.of(text, what), want[text][what]);
        }
        due.is("of", x.of(5, 0), Due.BAD);
        due.is("of", x.of(-1, 0), Due.BAD);
        due.is("of", x.of(0, 3), Due.BAD);
        due.is("of", x.of(0, -1), Due.BAD);
        due.is("why", x.why(0, 7), 3);
        due.is("why", x.why(0, 11), 4);
        due.is("why", x.why(0, 0), Due.NONE);
        due.is("why", x.why(1, -100), 1);
        due.is("why", x.why(2, 100), 2);
        due.is("why", x.why(0, 12), Due.BAD);
        due.is("why", x.why(0, -1), Due.BAD);
        due.is("why", x.why(-1, 0), Due.BAD);
        due.is("why", x.why(3, 0), Due.BAD);
    }

    private static void spreads() {
        TwinTables x = new TwinTables();
        x.table(0);
        x.table(59);
        x.figure(0, 1, 7700, 30, -1);
        x.figure(1, 1, 7700, 40, -1);
        Due.text(x, "spread n*100+y");
        due.is("spread", x.told(0, 7), 3000);
        due.is("spread", x.told(1, 7), 4059);
        Due.text(x, "spread 0-1");
        due.is("held", x.told(0, 7), 0);
        due.is("fits at base", x.told(0, 5), 1);
        Due.text(x, "spread 9999+1");
        due.is("held", x.told(0, 7), 9999);
    }

    private static void odds() {
        TwinTables x = Due.withTables(1);
        int[] values = {10, 20, 31, 41, 51, 9999, 8};
        for (int value : values) x.figure(0, 1, value, 9, -1);
        due.is("above a third", x.odd(), 1 << 1);
        x.figure(0, 1, 5, 9, -1);
        x.figure(0, 1, 6, 9, -1);
        due.is("a third is not above", x.odd(), 0);
        Due.text(x, "odd (c=1)*(d>5)");
        due.is("by a text", x.odd(), 1 << 9 | 1 << 8 | 1 << 6);
        Due.text(x, "odd a-9");
        due.is("by how many", x.odd(), 0);
        Due.text(x, "odd c-1");
        due.is("below 0 is not 0", x.odd(), 1023 & ~(1 << 9 | 1 << 8 | 1 << 6 | 1 << 5));
    }

    // ---- workings made at random, with what they give worked out beside

    private static int given;

    /** A text of one level (0 .. 5, the loosest first), blanks thrown in; given becomes what it gives for n, f, i. */
    private static String make(Random random, int level, int room, int[] names) {
        if (level == 5) return makePiece(random, room, names);
        String made = make(random, level + 1, room, names);
        String signs = new String[] {"|", "&", "<=>", "+-", "*/"}[level];
        int most = level == 2 ? 1 : 2;
        for (int k = 0; k < most && random.nextInt(4) == 0; k++) {
            int left = given;
            char sign = signs.charAt(random.nextInt(signs.length()));
            String right = make(random, level + 1, room, names);
            given = work(sign, left, given);
            made = made + (random.nextBoolean() ? " " : "") + sign + (random.nextInt(3) == 0 ? "  " : "") + right;
        }
        return made;
    }

    private static String makePiece(Random random, int room, int[] names) {
        int dice = random.nextInt(room > 0 ? 6 : 3);
        if (dice >= 4) return "(" + make(random, 0, room - 1, names) + ")";
        if (dice == 3) {
            String inner = makePiece(random, room - 1, names);
            given = given == 0 ? 1 : 0;
            return "!" + inner;
        }
        if (dice == 2) {
            int name = random.nextInt(3);
            given = names[name];
            return "" + "nfi".charAt(name);
        }
        given = random.nextInt(3) == 0 ? random.nextInt(3) : random.nextInt(10000);
        return "" + given;
    }

    private static int work(char sign, int left, int right) {
        switch (sign) {
            case '|': return left != 0 | right != 0 ? 1 : 0;
            case '&': return left != 0 & right != 0 ? 1 : 0;
            case '<': return left < right ? 1 : 0;
            case '=': return left == right ? 1 : 0;
            case '>': return left > right ? 1 : 0;
            case '+': return (int) ((long) left + right);
            case '-': return (int) ((long) left - right);
            case '*': return (int) ((long) left * right);
            default: return right == 0 ? 0 : (int) ((long) left / right);
        }
    }

    private static void randomWorkings(Random random) {
        for (int round = 0; round < 20000; round++) {
            int[] names = {1 + random.nextInt(999), random.nextInt(10000), 2};
            String made = "working 1 " + make(random, 0, 5, names);
            int want = given;
            if (made.length() > 96) continue;
            TwinTables x = Due.withTables(2);
            x.figure(0, 0, names[1], 1, -1);
            x.figure(1, 0, 5, 1, -1);
            x.figure(1, 0, 5, 1, -1);
            x.figure(1, 0, 5, names[0], 0);
            due.is(made, Due.text(x, made), 0);
            due.is(made + " gives", x.told(3, 8), want);
        }
    }

    // ---- the FAULT, looked for in another way: without recursion, a row of open ( and what stands in each

    private static int firstFault(String s) {
        int at = 0;
        int state = 0; // 0 key, 1 TABLE, 2 a PIECE is due, 3 a PIECE is behind
        String names = "";
        int depth = 0;
        boolean[] tested = new boolean[9];
        int[] nots = new int[9];
        int wordEnd = -1;
        while (true) {
            while (at < s.length() && s.charAt(at) == ' ') at++;
            if (at == s.length()) return state == 3 && depth == 0 ? -1 : at;
            int end = at + 1;
            String sort = sort(s.charAt(at));
            while (!sort.isEmpty() && end < s.length() && sort(s.charAt(end)).equals(sort)) end++;
            String token = s.substring(at, end);
            if (!sort.isEmpty() && wordEnd == at) return at;
            wordEnd = sort.isEmpty() ? -1 : end;
            boolean number = sort.equals("0") && token.length() <= 4;
            if (state == 0) {
                if (!token.equals("working") && !token.equals("spread") && !token.equals("odd")) return at;
                names = token.equals("working") ? "nfi" : token.equals("spread") ? "ny" : "cda";
                state = token.equals("working") ? 1 : 2;
            } else if (state == 1) {
                if (!number || Integer.parseInt(token) > 11) return at;
                state = 2;
            } else if (state == 2) {
                int open = 0;
                for (int k = 0; k <= depth; k++) open += nots[k];
                if (token.equals("!")) {
                    if (open == 8) return at;
                    nots[depth]++;
                } else if (token.equals("(")) {
                    if (depth == 8) return at;
                    depth++;
                    tested[depth] = false;
                    nots[depth] = 0;
                } else if (number || sort.equals("a") && token.length() == 1 && names.contains(token)) {
                    nots[depth] = 0;
                    state = 3;
                } else {
                    return at;
                }
            } else if (token.equals(")") && depth > 0) {
                depth--;
                nots[depth] = 0;
            } else if ("+-*/&|".contains(token) || "<=>".contains(token) && !tested[depth]) {
                if (!"+-*/".contains(token)) tested[depth] = "<=>".contains(token);
                state = 2;
            } else {
                return at;
            }
            at = end;
        }
    }

    private static String sort(char c) {
        return c >= 'a' && c <= 'z' ? "a" : c >= '0' && c <= '9' ? "0" : "";
    }

    private static void randomFaults(Random random) {
        String[] parts = {" ", "n", "f", "c", "d", "y", "1", "23", "(", ")", "(", "!", "!", "+", "-", "*", "/", "<", "=", ">", "&", "|", "odd", "#", "12345", "("};
        String[] keys = {"odd ", "spread ", "working 3 ", " odd", "working 12 ", "working", ""};
        for (int round = 0; round < 60000; round++) {
            StringBuilder made = new StringBuilder(keys[random.nextInt(20) < 17 ? random.nextInt(3) : random.nextInt(7)]);
            int many = random.nextInt(24);
            int kinds = random.nextBoolean() ? parts.length : 22;
            boolean due0 = true;
            for (int k = 0; k < many; k++) {
                String part = parts[random.nextInt(kinds)];
                if (random.nextInt(8) != 0) { // mostly what can go on, so that faults come late too
                    String[] likely = due0 ? new String[] {"c", "n", "1", "(", "!", "("} : new String[] {"+", "*", "<", "&", "|", ")", ")"};
                    part = likely[random.nextInt(likely.length)];
                }
                if (part.equals("c") || part.equals("n")) part = made.toString().contains("odd") ? "c" : "n";
                due0 = !(part.equals("c") || part.equals("n") || part.equals("1") || part.equals(")"));
                made.append(part);
            }
            String s = made.length() > 96 ? made.substring(0, 96) : made.toString();
            int want = firstFault(s);
            due.is('"' + s + '"', Due.text(new TwinTables(), s), want < 0 ? 0 : -100 - want);
        }
    }
}
