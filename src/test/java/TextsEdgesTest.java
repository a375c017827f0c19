/** The edges that part 2 of the terms and promises 8 to 12 name, sentence by sentence. */
public final class TextsEdgesTest {
    private static final Due due = new Due();
    private static final int BAD = Due.BAD, FULL = Due.FULL, NONE = Due.NONE;
    private static final String[] BUT_THE_TAPE = {Probes.TAPE};
    private static final Run NEW = new Run();
    private static final Run FED = NEW.times(8, "feed 1 2 3");
    private static final Run FULL_OF_TEXTS = NEW.times(14, "text odd c");
    /** TABLE 0 of the YEAR 59 with FIGURES of PAIRS 1 and 999; the second is FROM the first, of the VALUE 9999. */
    private static final Run FIGURES = new Run("table 59", "figure 0 0 9999 1 -1", "figure 0 0 3 999 0");

    public static void main(String[] args) {
        feeds();
        trims();
        usedUp();
        texts();
        heads();
        words();
        numbers();
        levels();
        openOnes();
        names();
        ints();
        whichCounts();
        spreads();
        odds();
        ofAndWhy();
        due.end();
    }

    /** The FAULT of a TEXT stands at a place (-1: it has none), and one with a FAULT changes nothing but THE TAPE. */
    private static void fault(String sentence, String bytes, int place) {
        Run run = NEW.then("text odd d", "tape " + bytes);
        due.says(sentence, run, "text", place < 0 ? 1 : -100 - place, "count 10", 0, "count 4", place < 0 ? 2 : 1);
        if (place >= 0) due.refuses(sentence, run, -100 - place, BUT_THE_TAPE, "text");
    }

    private static void feeds() {
        String feed = "Twelve bytes come to THE TAPE, the highest of each number first: how many it has.";
        due.says(feed, NEW, "feed 1868850208 1663788077 825371233", 12, "text", 0, "of 0 0", 2, "of 0 2", 4); // odd c+d-12*a
        due.says("FULL: it would have more than 96.", FED.then("trim 84"), "feed 1 2 3", 96, "count 10", 96);
        due.refuses("FULL: it would have more than 96.", FED, FULL, "feed 1 2 3", "feed 0 0 0");
        due.refuses("FULL: it would have more than 96.", FED.then("trim 85"), FULL, "feed 1 2 3");
        due.says("THE TAPE (96 bytes at most;", NEW, "text odd " + "c+".repeat(45) + "cc", -100 - 94, "text odd " + "c+".repeat(45) + "c ", 0, "of 0 2", 46);
        due.says(feed, NEW.then("feed -1 -1 -1"), "trim 1", 1, "feed 0 0 0", 13, "text", -100); // bytes of 255 are signs that no TEXT has
    }

    private static void trims() {
        String trim = "THE TAPE keeps its first n bytes: n. BAD.";
        due.says(trim, NEW, "trim 0", 0, "feed 1 2 3", 12, "trim 12", 12, "trim 11", 11, "count 10", 11, "trim 0", 0, "count 10", 0);
        due.says(trim, new Run("tape odd cd"), "trim 5", 5, "text", 0);
        due.refuses(trim, NEW, BAD, "trim 1", "trim -1", "trim 96", "trim MIN", "trim MAX");
        due.refuses(trim, new Run("tape odd c"), BAD, "trim 6", "trim 12", "trim -1");
        due.refuses(trim, FED, BAD, "trim 97", "trim -1");
    }

    private static void usedUp() {
        String uses = "an act that reads it uses it up, whatever it answers";
        due.says(uses, new Run("tape odd c"), "text", 0, "count 10", 0, "text", -100);
        due.says(uses, new Run("tape odd +"), "text", -104, "count 10", 0, "text", -100);
        due.says(uses, FULL_OF_TEXTS.then("tape odd c"), "text", FULL, "count 10", 0, "text", -100);
    }

    private static void texts() {
        due.says("TEXTS, 14 at most, numbered from 0", NEW.times(12, "text odd c"), "text odd c", 12, "text spread 5", 13, "count 4", 14);
        due.says("THE TAPE is a TEXT: its number.", NEW, "text odd c", 0, "text odd c", 1, "count 4", 2);
        due.refuses("TEXTS, 14 at most", FULL_OF_TEXTS.then("tape odd d"), FULL, BUT_THE_TAPE, "text");
        due.refuses("TEXTS, 14 at most", FULL_OF_TEXTS.then("tape spread 1"), FULL, BUT_THE_TAPE, "text");
        due.refuses("-100 less the place of its FAULT; FULL.", FULL_OF_TEXTS.then("tape odd e"), -104, BUT_THE_TAPE, "text");
        due.refuses("-100 less the place of its FAULT; FULL.", FULL_OF_TEXTS, -100, BUT_THE_TAPE, "text");
        fault("-100 less the place of its FAULT", "odd " + "c+".repeat(45) + "c+", 96);
        fault("-100 less the place of its FAULT", "#", 0);
    }

    private static void heads() {
        String head = "working T E (T: a NUMBER, a TABLE 0 .. 11, there or not) | spread E | odd E.";
        fault(head, "working 0 n", -1);
        fault(head, "working 11 n", -1);
        fault("a T above 11", "working 12 n", 8);
        fault("a T above 11", "working 9999 n", 8);
        fault("a T above 11", "working 0011 n", -1);
        fault("a T above 11", "working 0012 n", 8);
        fault(head, "working 00000 n", 8);
        fault(head, "working n", 8);
        fault(head, "working (0) n", 8);
        fault(head, "spread n", -1);
        fault(head, "odd c", -1);
        fault(head, "ood c", 0);
        fault(head, "odds c", 0);
        fault(head, "od c", 0);
        fault(head, "Odd c", 0);
        fault(head, "xdd c", 0);
        fault(head, "5", 0);
        fault(head, "5 + +", 0);
        fault(head, "(5 (", 0);
        fault(head, "odd odd c", 4);
        fault(head, "working 1 1 n", 12);
        due.says(head, FIGURES, "text working 11 7", 0, "of 0 1", 11, "told 0 8", NONE, "text working 0 7", 1, "told 0 8", 7);
    }

    private static void words() {
        String row = "A word is a row of letters a .. z, or of digits, as long as it goes; any other byte is a sign by itself.";
        fault(row, "odd `", 4);
        fault(row, "odd {", 4);
        fault(row, "odd :", 4);
        fault(row, "odd c/d", -1);
        fault(row, "odd az", 4);
        fault(row, "odd C", 4);
        fault(row, "odd c_", 5);
        String blanks = "Between words and signs, and at the ends, there may be blanks (byte 32)";
        fault(blanks, "   odd   (   c   +   12   )   ", -1);
        fault(blanks, "odd(c+12)", -1);
        fault(blanks, "odd\tc", 3);
        fault(blanks, "odd c\n", 5);
        fault(blanks, "odd c" + (char) 0, 5);
        fault(blanks, "odd c" + (char) 160, 5);
        String needs = "a word right behind another one needs one.";
        fault(needs, "working 1n", 9);
        fault(needs, "working 1 n", -1);
        fault(needs, "working1 n", 7);
        fault(needs, "spread5", 6);
        fault(needs, "spread 5", -1);
        fault("a word that needs a blank ahead of it", "odd 1c", 5);
        fault("a word that needs a blank ahead of it", "odd c1", 5);
        fault("a word that needs a blank ahead of it", "odd 1 c", 6);
        String first = "FAULT: the first byte of the first word or sign with which no TEXT goes on";
        fault(first, "odd c  dd", 7);
        fault(first, "odd c +  + )", 9);
        fault(first, "odd (c))", 7);
        fault(first, "  workings", 2);
        String end = "the end (the place behind the last byte), if it comes too soon.";
        fault(end, "", 0);
        fault(end, "    ", 4);
        fault(end, "odd", 3);
        fault(end, "odd  ", 5);
        fault(end, "working", 7);
        fault(end, "working 3 ", 10);
        fault(end, "odd (c ", 7);
        fault(end, "odd c+", 6);
        fault(end, "odd ! ", 6);
        fault(end, "odd c" + " ".repeat(91), -1);
    }

    private static void numbers() {
        String digits = "PIECE: NUMBER (1 to 4 digits)";
        fault(digits, "odd 0", -1);
        fault(digits, "odd 9999", -1);
        fault(digits, "odd 0000", -1);
        fault("a NUMBER of more than 4 digits", "odd 10000", 4);
        fault("a NUMBER of more than 4 digits", "odd 00000", 4);
        fault("a NUMBER of more than 4 digits", "odd c+12345", 6);
        due.says(digits, FIGURES.then("text working 0 9999"), "told 0 8", 9999, "text working 0 0007", 1, "told 0 8", 7, "text working 0 0", 2, "told 0 8", 0);
    }

    private static void levels() {
        String test = "TEST: SUM [ (< | = | >) SUM ]";
        fault(test, "odd c<d", -1);
        fault(test, "odd c<d<a", 7);
        fault(test, "odd c=d>a", 7);
        fault(test, "odd (c<d)<a", -1);
        fault(test, "odd c<d&d<a|a>c", -1);
        fault("OR: AND { | AND }; AND: TEST { & TEST }", "odd c|d|a&c&d", -1);
        fault("OR: AND { | AND }; AND: TEST { & TEST }", "odd |c", 4);
        fault("SUM: TERM { (+ | -) TERM }; TERM: PIECE { (* | /) PIECE }", "odd c+d-a*c/d", -1);
        fault("SUM: TERM { (+ | -) TERM }; TERM: PIECE { (* | /) PIECE }", "odd -c", 4);
        fault("| NAME | ! PIECE | ( E ).", "odd ()", 5);
        fault("| NAME | ! PIECE | ( E ).", "odd !+c", 5);
        fault("| NAME | ! PIECE | ( E ).", "odd c!", 5);
        String loosest = "E, the loosest first";
        gives(loosest, "2+3*4", 14);
        gives(loosest, "9-3-2", 4);
        gives(loosest, "64/4/2", 8);
        gives(loosest, "1+1<3", 1);
        gives(loosest, "1|0&0", 1);
        gives(loosest, "2&3=3", 1);
        gives(loosest, "!0+5", 6);
        gives(loosest, "!(0+5)", 0);
        gives(loosest, "7-!0", 6);
    }

    private static void openOnes() {
        String open = "the ninth ( that would be open within others, the ninth ! likewise, each by itself";
        fault(open, "odd " + "(".repeat(8) + "c" + ")".repeat(8), -1);
        fault(open, "odd " + "(".repeat(9) + "c" + ")".repeat(9), 12);
        fault(open, "odd " + "(".repeat(8) + "c" + ")".repeat(8) + "+" + "(".repeat(8) + "c" + ")".repeat(8), -1);
        fault(open, "odd " + "!".repeat(8) + "c", -1);
        fault(open, "odd " + "!".repeat(9) + "c", 12);
        fault(open, "odd " + "!".repeat(8) + "c+" + "!".repeat(8) + "d", -1);
        fault(open, "odd " + "!(".repeat(8) + "c" + ")".repeat(8), -1);
        fault(open, "odd " + "!(".repeat(8) + "!c" + ")".repeat(8), 20);
        fault(open, "odd " + "!(".repeat(8) + "(c)" + ")".repeat(8), 20);
        fault(open, "odd !!!!(!!!!c)", -1);
        fault(open, "odd !!!!(!!!!!c)", 13);
        fault(open, "odd !!!!(c)+!!!!!!!!c", -1);
    }

    private static void names() {
        String working = "of working n PAIRS, f the VALUE of the one that it is FROM (0 without), i how many FIGURES of its TABLE are ahead of it";
        due.says(working, FIGURES.then("text working 0 n"), "told 0 8", 1, "told 1 8", 999);
        due.says(working, FIGURES.then("text working 0 f"), "told 0 8", 0, "told 1 8", 9999);
        due.says(working, FIGURES.then("table 59", "figure 1 0 1 1 -1", "figure 0 0 1 1 -1", "text working 0 i", "text working 1 i"), "told 0 8", 0, "told 1 8", 1, "told 2 8", 0, "told 3 8", 2);
        String spread = "of spread n, y the YEAR";
        due.says(spread, FIGURES.then("text spread n"), "told 0 7", 1, "told 1 7", 999, "text spread y", 1, "told 0 7", 59);
        String odd = "of odd c how many share the last digit, d that digit, a how many FIGURES there are.";
        due.says(odd, NEW, "text odd c", 0, "odd", 0, "text odd a", 1, "odd", 0, "text odd d", 2, "odd", 1022);
        due.says(odd, FIGURES, "text odd c", 0, "odd", 1 << 9 | 1 << 3, "text odd a=2", 1, "odd", 1023, "text odd d=0", 2, "odd", 1, "text odd d=9", 3, "odd", 512);
        for (char name = 'a'; name <= 'z'; name++) {
            fault("NAMES, each one letter", "working 1 " + name, "nfi".indexOf(name) >= 0 ? -1 : 10);
            fault("NAMES, each one letter", "spread " + name, "ny".indexOf(name) >= 0 ? -1 : 7);
            fault("NAMES, each one letter", "odd " + name, "cda".indexOf(name) >= 0 ? -1 : 4);
        }
        fault("NAMES, each one letter", "working 1 nn", 10);
    }

    private static void gives(String sentence, String working, int want) {
        due.says(sentence, FIGURES.then("text working 0 " + working), "told 0 8", want);
    }

    private static void ints() {
        gives("Ints wrap", "8192*8192*32", Integer.MIN_VALUE);
        gives("Ints wrap", "8192*8192*32-1", Integer.MAX_VALUE);
        gives("Ints wrap", "8192*8192*32-1+1", Integer.MIN_VALUE);
        gives("Ints wrap", "8192*8192*64", 0);
        gives("Ints wrap", "9999*9999*9999", (int) (9999L * 9999 * 9999));
        gives("Ints wrap", "8192*8192*32/(0-1)", Integer.MIN_VALUE);
        gives("/ is 0 by 0", "5/0", 0);
        gives("/ is 0 by 0", "0/0", 0);
        gives("/ is 0 by 0", "7+5/f", 7);
        gives("All numbers are whole; / cuts towards 0.", "7/2", 3);
        gives("All numbers are whole; / cuts towards 0.", "(0-7)/2", -3);
        gives("All numbers are whole; / cuts towards 0.", "7/(0-2)", -3);
        gives("All numbers are whole; / cuts towards 0.", "(0-7)/(0-2)", 3);
        String truth = "tests, & | ! give 1 or 0 (what is not 0 is true; both sides are worked out).";
        gives(truth, "5&7", 1);
        gives(truth, "5&0", 0);
        gives(truth, "0&5", 0);
        gives(truth, "(0-3)&2", 1);
        gives(truth, "0|0", 0);
        gives(truth, "0|9", 1);
        gives(truth, "(0-9)|0", 1);
        gives(truth, "!0", 1);
        gives(truth, "!5", 0);
        gives(truth, "!(0-5)", 0);
        gives(truth, "!!7", 1);
        gives(truth, "1|5/0", 1);
        gives(truth, "0&5/0", 0);
        gives(truth, "4<5", 1);
        gives(truth, "5<5", 0);
        gives(truth, "5<4", 0);
        gives(truth, "4>5", 0);
        gives(truth, "5>5", 0);
        gives(truth, "5>4", 1);
        gives(truth, "5=5", 1);
        gives(truth, "5=4", 0);
        gives(truth, "0-1<0", 1);
    }

    private static void whichCounts() {
        String last = "Of a TABLE's working, of spread, of odd the TEXT that was told last counts.";
        Run run = FIGURES.then("text working 0 1", "text working 0 2", "text working 1 3", "text spread 4", "text spread 5", "text odd d=1", "text odd d=2");
        due.says(last, run, "told 0 8", 2, "told 0 7", 5, "odd", 4, "why 0 0", 1, "why 0 1", 2, "why 1 0", 4, "why 2 0", 6);
        due.says(last, run.then("text working 0 +", "text spread x", "text odd"), "told 0 8", 2, "told 0 7", 5, "odd", 4);
        due.says("A TABLE without a working has none.", FIGURES.then("text working 1 5", "text spread 5"), "told 0 8", NONE, "turns 0 2", 0, "told 0 5", 0, "turns 0 3", 2, "told 0 5", 0);
    }

    private static void spreads() {
        String held = "SPREAD of a FIGURE: what spread gives, 0 .. 9999 held; without a TEXT 10000 by PAIRS (cut).";
        due.says(held, FIGURES.then("figure 0 0 0 3 -1"), "told 0 7", 10000, "told 1 7", 10, "told 2 7", 3333);
        due.says(held, FIGURES, "text spread 0", 0, "told 0 7", 0, "text spread 0-1", 1, "told 0 7", 0, "text spread 9999", 2, "told 0 7", 9999, "text spread 9999+1", 3, "told 0 7", 9999);
        due.says(held, FIGURES, "text spread 8192*8192*32", 0, "told 0 7", 0, "text spread 8192*8192*32-1", 1, "told 0 7", 9999);
    }

    private static void odds() {
        String odd = "ODD digits: those of which odd is not 0; without a TEXT those with c above a third (cut) of a.";
        Run three = new Run("table 1", "figure 0 0 5 1 -1", "figure 0 0 6 1 -1", "figure 0 0 7 1 -1");
        due.says(odd, three, "odd", 0, "figure 0 0 15 1 -1", 3, "odd", 1 << 5, "figure 0 0 8 1 -1", 4, "odd", 1 << 5, "figure 0 0 8 1 -1", 5, "odd", 0);
        due.says(odd, new Run("table 1"), "odd", 0, "figure 0 0 9 1 -1", 0, "odd", 1 << 9, "figure 0 0 0 1 -1", 1, "odd", 1 << 9 | 1);
        due.says(odd, three, "text odd 0", 0, "odd", 0, "text odd 1", 1, "odd", 1023, "text odd 0-d", 2, "odd", 1022, "text odd c-1", 3, "odd", 1023 & ~(7 << 5));
    }

    private static void ofAndWhy() {
        Run run = NEW.then("text working 7 n+(3-f)*n", "text spread 5", "text odd !c");
        String of = "Of a TEXT: what 0 its key (0 working, 1 spread, 2 odd), 1 its TABLE (NONE), 2 how many NUMBERS and NAMES it has (T not). BAD.";
        due.says(of, run, "of 0 0", 0, "of 0 1", 7, "of 0 2", 4, "of 1 0", 1, "of 1 1", NONE, "of 1 2", 1, "of 2 0", 2, "of 2 1", NONE, "of 2 2", 1);
        due.refuses(of, run, BAD, "of 3 0", "of -1 0", "of MIN 0", "of MAX 0", "of 0 -1", "of 0 3", "of 0 MIN", "of 0 MAX");
        due.refuses(of, NEW, BAD, "of 0 0");
        due.refuses(of, FULL_OF_TEXTS, BAD, "of 14 0");
        String why = "The TEXT that counts: key 0 for a TABLE (0 .. 11), 1, 2 (the TABLE does not matter). BAD; NONE.";
        due.says(why, run, "why 0 7", 0, "why 0 0", NONE, "why 0 11", NONE, "why 1 MIN", 1, "why 1 12", 1, "why 2 -1", 2, "why 2 MAX", 2);
        due.says(why, NEW, "why 0 0", NONE, "why 0 11", NONE, "why 1 -1", NONE, "why 2 12", NONE);
        due.refuses(why, run, BAD, "why 0 -1", "why 0 12", "why 0 MIN", "why 0 MAX", "why -1 0", "why 3 0", "why MIN 0", "why MAX 0", "why 3 12");
        due.refuses(why, NEW, BAD, "why 0 12", "why 3 0");
    }
}
