import java.util.ArrayList;
import java.util.List;
import java.util.regex.Matcher;
import java.util.regex.Pattern;

/**
 * A TEXT, read in another way than the class does: a row of bytes is one if its innermost ( ) can be taken for a leaf
 * again and again until nothing is left; its FAULT is the first word with which it can't be gone on from to such a row;
 * what it gives is found by parting it at its last, loosest sign.
 */
final class SecondText {
    private static final String PIECE = "!*[A-I]";
    private static final String TEST = PIECE + "([-+*/]" + PIECE + ")*([<=>]" + PIECE + "([-+*/]" + PIECE + ")*)?";
    private static final Pattern WHOLE = Pattern.compile(TEST + "([&|]" + TEST + ")*");
    private static final Pattern ONE_PIECE = Pattern.compile("(!*)([A-I])");
    private static final String[] KEYS = {"working", "spread", "odd"};
    private static final String[] NAMES = {"nfi", "ny", "cda"};
    private static final String[] GOES_ON = {"", " 1", " 1 1"};
    private static final int DEEPEST = 8;

    final int key;
    final int table;
    final int leaves;
    private final List<String> body;

    private SecondText(int key, List<String> words) {
        this.key = key;
        table = key == 0 ? Integer.parseInt(words.get(1)) : Due.NONE;
        body = words.subList(key == 0 ? 2 : 1, words.size());
        leaves = (int) body.stream().filter(word -> word.matches("[a-z0-9]+")).count();
    }

    /** null: it is no TEXT. */
    static SecondText read(String bytes) {
        List<String> words = words(bytes);
        return isText(words) ? new SecondText(List.of(KEYS).indexOf(words.get(0)), words) : null;
    }

    /** The place of the FAULT of what is no TEXT. */
    static int fault(String bytes) {
        Matcher word = Pattern.compile("[a-z]+|[0-9]+|[^ ]", Pattern.DOTALL).matcher(bytes);
        while (word.find()) {
            if (!goesOn(bytes.substring(0, word.end()))) return word.start();
        }
        return bytes.length();
    }

    private static boolean goesOn(String bytes) {
        for (String more : GOES_ON) {
            for (int closed = 0; closed <= DEEPEST; closed++) {
                if (isText(words(bytes + more + ")".repeat(closed)))) return true;
            }
        }
        return false;
    }

    /** Words and signs; a word without the blank that it needs is a sign that no TEXT has. */
    private static List<String> words(String bytes) {
        List<String> words = new ArrayList<>();
        Matcher word = Pattern.compile("[a-z]+|[0-9]+|[^ ]", Pattern.DOTALL).matcher(bytes);
        boolean behindWord = false;
        int end = 0;
        while (word.find()) {
            boolean isWord = word.group().matches("[a-z0-9]+");
            words.add(isWord && behindWord && word.start() == end ? "#" : word.group());
            behindWord = isWord;
            end = word.end();
        }
        return words;
    }

    private static boolean isText(List<String> words) {
        int key = words.isEmpty() ? -1 : List.of(KEYS).indexOf(words.get(0));
        if (key < 0) return false;
        int from = 1;
        if (key == 0) {
            if (words.size() < 2 || !words.get(1).matches("[0-9]{1,4}") || Integer.parseInt(words.get(1)) > 11) return false;
            from = 2;
        }
        StringBuilder row = new StringBuilder();
        for (String word : words.subList(from, words.size())) {
            boolean leaf = word.matches("[0-9]{1,4}") || word.length() == 1 && NAMES[key].contains(word);
            if (!leaf && (word.length() != 1 || !"|&<=>+-*/!()".contains(word))) return false;
            row.append(leaf ? "A" : word);
        }
        return isWhole(row.toString());
    }

    /** A leaf is a letter: A, or a later one for what was a ( ) with so many ! open within one another inside. */
    private static boolean isWhole(String row) {
        int open = 0;
        for (char sign : row.toCharArray()) {
            if (sign == '(') open++;
            if (sign == ')') open--;
            if (open > DEEPEST) return false;
        }
        String rest = row;
        while (rest.contains("(")) {
            int from = rest.lastIndexOf('(');
            int to = rest.indexOf(')', from);
            int nots = to < 0 ? -1 : nots(rest.substring(from + 1, to));
            if (nots < 0) return false;
            rest = rest.substring(0, from) + (char) ('A' + nots) + rest.substring(to + 1);
        }
        return nots(rest) >= 0;
    }

    /** How many ! are open within one another in a row without ( ); -1: too many, or it is no E. */
    private static int nots(String row) {
        if (!WHOLE.matcher(row).matches()) return -1;
        int most = 0;
        Matcher piece = ONE_PIECE.matcher(row);
        while (piece.find()) most = Math.max(most, piece.group(1).length() + piece.group(2).charAt(0) - 'A');
        return most > DEEPEST ? -1 : most;
    }

    int gives(int... named) {
        return gives(body, named);
    }

    private int gives(List<String> row, int[] named) {
        for (String signs : new String[] {"|", "&", "<=>", "+-", "*/"}) {
            int at = lastOutside(row, signs);
            if (at < 0) continue;
            return join(row.get(at).charAt(0), gives(row.subList(0, at), named), gives(row.subList(at + 1, row.size()), named));
        }
        String first = row.get(0);
        if (first.equals("!")) return gives(row.subList(1, row.size()), named) == 0 ? 1 : 0;
        if (first.equals("(")) return gives(row.subList(1, row.size() - 1), named);
        return Character.isDigit(first.charAt(0)) ? Integer.parseInt(first) : named[NAMES[key].indexOf(first)];
    }

    private static int lastOutside(List<String> row, String signs) {
        int open = 0;
        for (int k = row.size() - 1; k >= 0; k--) {
            if (row.get(k).equals(")")) open++;
            if (row.get(k).equals("(")) open--;
            if (open == 0 && signs.contains(row.get(k))) return k;
        }
        return -1;
    }

    private static int join(char sign, int one, int other) {
        boolean both = one != 0 & other != 0;
        boolean either = one != 0 | other != 0;
        return switch (sign) {
            case '|' -> either ? 1 : 0;
            case '&' -> both ? 1 : 0;
            case '<' -> one < other ? 1 : 0;
            case '=' -> one == other ? 1 : 0;
            case '>' -> one > other ? 1 : 0;
            case '+' -> one + other;
            case '-' -> one - other;
            case '*' -> one * other;
            default -> other == 0 ? 0 : one / other;
        };
    }
}
