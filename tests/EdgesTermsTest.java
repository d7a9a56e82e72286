/** Passage 3 and promises 14 to 16: each sentence that names a boundary has a run of its own, both sides of it. */
public final class EdgesTermsTest {
    private static final int BAD = -1, FULL = -2;

    public static void main(String[] args) {
        tape();
        bytes();
        numbers();
        overs();
        open();
        grammar();
        faults();
        lines();
        versions();
        latestCounts();
        promiseVersion();
        Run.end("EdgesTerms");
    }

    /** The fault of a text on a new object: its place. */
    private static void fault(String sentence, int place, String text) {
        new Run(sentence).read(-100 - place, text).is(0, "many(5)", "many(12)").is(BAD, "version(0, 0)").is(0, "read()");
    }

    private static void right(String sentence, String... texts) {
        for (String text : texts) new Run(sentence).read(0, text).is(1, "many(5)").is(0, "many(12)");
    }

    private static String times(String s, int n) {
        return s.repeat(n);
    }

    private static void tape() {
        new Run("THE TAPE takes bytes, 220 at most")
            .times(27, "feed(0, 8)").is(216, "many(12)").is(FULL, "feed(0, 5)", "feed(0, 8)").is(216, "many(12)").is(220, "feed(0, 4)", "many(12)").is(FULL, "feed(0, 1)", "feed(0, 8)").is(220, "many(12)");
        new Run("THE TAPE: its 220th byte is read")
            .feed(times(" ", 212)).is(219, "feed(" + text("most 5;") + ", 7)").is(220, "feed(59, 1)").is(-319, "read()");
        new Run("THE TAPE: a text of 220 bytes").read(0, "most 5" + times(" ", 213) + ";").is(5, "version(0, 30)");
        new Run("read() uses it up")
            .feed("most 1;").is(7, "many(12)").is(0, "read()", "many(12)").is(1, "read()").is(0, "version(1, 0)");
        new Run("THE TAPE is used up by read(), too where that is refused")
            .read(-104, "most").is(0, "many(12)").read(0, "most 1;").read(1, "").read(2, "").read(3, "").read(4, "").read(5, "").read(FULL, "most 2;").is(0, "many(12)").read(-100, "x").is(0, "many(12)");
        new Run("feed: n bytes (1 to 8)")
            .is(BAD, "feed(0, 0)", "feed(0, -1)", "feed(0, 9)", "feed(0, min)", "feed(0, max)").is(0, "many(12)").is(1, "feed(0, 1)").is(9, "feed(0, 8)");
        new Run("feed: the lowest of eight first")
            .is(7, "feed(" + text("most 7;") + ", 7)").is(0, "read()").is(7, "version(0, 30)").is(8, "feed(" + text("most 12;") + ", 8)").is(1, "read()").is(12, "version(1, 30)");
        new Run("feed: n of the eight alone")
            .so("feed(" + text("most 12;") + ", 6)", "feed(59, 1)").is(0, "read()").is(1, "version(0, 30)");
        new Run("feed: the eighth byte, where the long is below 0")
            .so("feed(-1, 8)").is(-100, "read()").so("feed(" + (text("most 1; ") & 0xffffffffffffffL | 0xa0L << 56) + ", 8)").is(-107, "read()");
        new Run("feed: BAD ahead of FULL: more than 220")
            .times(27, "feed(0, 8)").is(BAD, "feed(0, 9)", "feed(0, 0)", "feed(0, max)").is(FULL, "feed(0, 8)").so("feed(0, 4)").is(BAD, "feed(0, 9)", "feed(0, 0)").is(FULL, "feed(0, 1)");
    }

    private static long text(String s) {
        long eight = 0;
        for (int i = 0; i < s.length(); i++) eight |= (s.charAt(i) & 255L) << 8 * i;
        return eight;
    }

    private static void bytes() {
        String words = "WORDS are rows of letters a to z, as long as they go";
        right(words, "most1;", "share by heads;most1;", "rate1over2rate3;", "land0pays5;", "free if boxes<1and maker=2or land>3;");
        fault(words, 0, "mostmost 1;");
        fault(words, 0, "mostz 1;");
        fault(words, 0, "mosta 1;");
        fault(words, 0, "amost 1;");
        fault(words, 0, "mos 1;");
        fault(words, 0, "shareby heads;");
        fault(words, 6, "share byheads;");
        fault(words, 4, "most`1;");
        fault(words, 4, "most{1;");
        fault(words, 4, "mostA1;");
        fault(words, 4, "mostZ;");
        fault(words, 0, "Most 1;");
        fault(words, 0, "`most 1;");
        fault(words, 0, "{most 1;");
        String rows = "NUMBERS rows of digits, as long as they go";
        fault(rows, 5, "most /1;");
        fault(rows, 5, "most :1;");
        fault(rows, 6, "most 1/;");
        fault(rows, 6, "most 1:;");
        fault(rows, 7, "most 1 2;");
        right(rows, "most 0;", "most 9;", "most 90;", "most 09;", "most 119;");
        String blanks = "blanks (32) between";
        right(blanks, "", " ", "  most  1  ;  ", times(" ", 220), "most 1;" + times(" ", 213));
        for (char other : new char[] {0, 9, 10, 13, 31, 33, 95, 127, 128, 160, 255}) {
            fault(blanks, 7, "most 1;" + other);
            fault(blanks, 6, "most 1" + other + ";");
            fault(blanks, 4, "most" + other + "1;");
            fault(blanks, 0, other + "most 1;");
        }
        fault(blanks, 3, "   ;");
        fault("blanks part WORDS", 0, "mo st 1;");
        fault("blanks part NUMBERS", 7, "most 1 0;");
    }

    private static void numbers() {
        String three = "NUMBERS (3 at most)";
        right(three, "most 999;", "most 099;", "most 000;", "rate 999 over 998 rate 999 over 999 rate 999;", "interest 999;", "land 003 pays 999;", "free if boxes < 999 or maker = 000;");
        fault(three, 5, "most 1000;");
        fault(three, 5, "most 0000;");
        fault(three, 5, "most 0001;");
        fault(three, 5, "most 4294967296;");
        fault(three, 5, "most 99999999999999999999;");
        fault(three, 5, "rate 1000;");
        fault(three, 12, "rate 1 over 1000 rate 1;");
        fault(three, 12, "rate 1 over 0005 rate 1;");
        fault(three, 19, "rate 1 over 5 rate 1000;");
        fault(three, 9, "interest 1000;");
        fault(three, 5, "land 0003 pays 1;");
        fault(three, 12, "land 3 pays 1000;");
        fault(three, 16, "free if boxes < 1000;");
        fault(three, 16, "free if boxes < 0001;");
        new Run("N: 0 to 999").read(0, "most 0;most 999;rate 0;rate 999;interest 0;interest 999;").is(0, "version(0, 30)", "version(0, 32)", "version(0, 34)").is(999, "version(0, 31)", "version(0, 33)", "version(0, 35)");
        right("the first of land 0 to 3", "land 0 pays 1;", "land 1 pays 1;", "land 2 pays 1;", "land 3 pays 1;", "land 0 pays 0;");
        fault("the first of land 0 to 3", 5, "land 4 pays 1;");
        fault("the first of land 0 to 3", 5, "land 10 pays 1;");
        fault("the first of land 0 to 3", 5, "land 999 pays 1;");
        right("the N of a NAME is any", "free if land = 4;", "free if land > 999;", "free if maker > 6;", "free if month > 240;");
    }

    private static void overs() {
        String above = "of an over: above the one ahead in its LINE";
        right(above, "rate 1 over 0 rate 1;", "rate 1 over 0 rate 1 over 1 rate 1;", "rate 1 over 4 rate 1 over 5 rate 1;", "rate 1 over 997 rate 1 over 998 rate 1 over 999 rate 1;", "rate 1 over 9 rate 1;rate 1 over 2 rate 1;", "rate 9 over 1 rate 9 over 2 rate 9;rate 9 over 0 rate 0;");
        fault(above, 25, "rate 1 over 5 rate 1over 5 rate 1;");
        fault(above, 26, "rate 1 over 5 rate 1 over 5 rate 1;");
        fault(above, 26, "rate 1 over 5 rate 1 over 4 rate 1;");
        fault(above, 26, "rate 1 over 0 rate 1 over 0 rate 1;");
        fault(above, 40, "rate 1 over 5 rate 1 over 6 rate 1 over 6 rate 1;");
        fault(above, 40, "rate 1 over 5 rate 1 over 7 rate 1 over 6 rate 1;");
        String three = "an over is told 3 times at most in a LINE";
        right(three, "rate 1 over 1 rate 1 over 2 rate 1 over 3 rate 1;", "rate 1 over 1 rate 1 over 2 rate 1 over 3 rate 1;rate 1 over 1 rate 1 over 2 rate 1 over 3 rate 1;");
        fault(three, 49, "rate 1 over 1 rate 1 over 2 rate 1 over 3 rate 1 over 4 rate 1;");
        fault("the fourth over: its WORD", 50, "rate 1 over 1 rate 1 over 2 rate 1 over 3 rate 11 over");
        fault("the fourth over: its WORD", 52, "rate 1  over 1 rate 1 over 2 rate 1 over 3 rate 11  over 3 rate 1;");
        new Run("the third over counts").so("must(1)", "claim(1, 1, 239, -1)", "join(0, true)").read(0, "rate 1 over 1 rate 10 over 2 rate 100 over 3 rate 999;").so("boxes(0, 4)").is(1110, "owe(0, 0, 0)");
    }

    private static void open() {
        String four = "At most 4 \"(\" are open within one another";
        right(four, "free if ((((favoured))));", "free if ((((favoured))) or (((favoured))));", "free if (favoured) or (favoured) or (favoured) or (favoured) or (favoured);",
            "free if not (not (not (not (not favoured))));", "free if ((((boxes<1)and(land=1))));", "free if ((((favoured))));free if ((((favoured))));");
        fault(four, 12, "free if (((((favoured)))));");
        fault(four, 12, "free if (((((");
        fault(four, 15, "free if ( ( ( (( favoured ) ) ) ) );");
        fault("the fifth \"(\"", 24, "free if ((((favoured and(favoured)))));");
        fault("the fifth \"(\"", 32, "free if (((favoured and ( not   ( favoured)))));");
        fault("a \")\" that none opened", 16, "free if favoured);");
        fault("a \")\" that none opened", 24, "free if ((((favoured)))));");
        fault("a \"(\" that is not closed", 17, "free if (favoured;");
        fault("a \"(\" that is not closed", 17, "free if (favoured");
        fault("a \"(\" with nothing in it", 9, "free if ();");
    }

    /** Pieces of a LINE: cut off behind each the end is the fault, and with each put by another that one. */
    private static void pieces(String line) {
        String[] p = line.split(" ");
        StringBuilder ahead = new StringBuilder();
        for (int i = 0; i < p.length; i++) {
            String behind = "";
            for (int j = i + 1; j < p.length; j++) behind += " " + p[j];
            if (i > 0) {
                fault("the end, if more must come", ahead.length(), ahead.toString());
                fault("the end (how many bytes there are)", ahead.toString().strip().length(), ahead.toString().strip());
                fault("a LINE that begins too early", ahead.length(), ahead + "most 1;");
                fault("a byte with which no TEXT goes on", ahead.length(), ahead + "%");
            }
            fault("a byte with which no TEXT goes on", ahead.length(), ahead + "!" + behind);
            fault("a WORD with which no TEXT goes on", ahead.length(), ahead + "zzz" + behind);
            boolean isPiece = p[i].matches("[a-z]+");
            if (isPiece) {
                fault("a WORD with which no TEXT goes on", ahead.length(), ahead + p[i] + "x" + behind);
                fault("a NUMBER with which no TEXT goes on", ahead.length(), ahead + "7" + behind);
                for (int j = 0; j < p[i].length(); j++) {
                    fault("a WORD of which one letter is another", ahead.length(), ahead + p[i].substring(0, j) + "q" + p[i].substring(j + 1) + behind);
                }
                fault("a WORD that is cut off", ahead.length(), ahead + p[i].substring(0, p[i].length() - 1) + behind);
            }
            ahead.append(p[i]).append(' ');
        }
        right("TEXT: { LINE ; }", line, line.replace(" ;", ";"), ahead + line, "most 1;" + line + "most 2;", "  " + line.replace(" ", "   ") + "  ");
    }

    private static void grammar() {
        pieces("share by heads ;");
        pieces("share by kin ;");
        pieces("share by worth ;");
        pieces("rate 5 over 7 rate 8 over 9 rate 1 ;");
        pieces("most 8 ;");
        pieces("land 2 pays 90 ;");
        pieces("interest 4 ;");
        pieces("free if favoured ;");
        pieces("free if boxes < 3 ;");
        pieces("free if maker = 3 ;");
        pieces("free if land > 3 ;");
        pieces("free if month > 3 ;");
        pieces("free if not ( favoured ) ;");
        pieces("free if favoured and favoured or not not favoured ;");
        pieces("free if ( boxes < 1 or favoured ) and favoured ;");
        right("TEXT: { LINE ; }", "", "rate 1;", "rate 1;rate 2;");
        fault("TEXT: { LINE ; }", 0, ";");
        fault("TEXT: { LINE ; }", 7, "rate 1;;");
        fault("TEXT: { LINE ; }", 0, "7");
        fault("{ over N rate N }", 7, "rate 1 rate 2;");
        fault("{ over N rate N }", 14, "rate 1 over 2 over 3;");
        fault("{ and ONE }", 21, "free if favoured and and favoured;");
        fault("{ or ALL }", 20, "free if favoured or or favoured;");
        fault("{ or ALL }", 20, "free if favoured or and favoured;");
        fault("ONE: { not }", 17, "free if favoured not favoured;");
        fault("SIGN: < | = | >", 15, "free if boxes <= 3;");
        fault("SIGN: < | = | >", 15, "free if boxes >= 3;");
        fault("SIGN: < | = | >", 14, "free if boxes ; 3;");
        fault("SIGN: < | = | >", 14, "free if boxes ? 3;");
        fault("a NAME without a SIGN", 13, "free if boxes;");
        fault("favoured takes no SIGN", 16, "free if favoured=1;");
        right("ONE: { not }", "free if not favoured;", "free if " + times("not ", 51) + "month>0;");
    }

    private static void faults() {
        fault("FAULT: the place (from 0)", 0, "x");
        fault("FAULT: the place (from 0)", 219, times(" ", 219) + "x");
        fault("FAULT: the first byte of the first", 8, "most 1; wrong wrong;");
        fault("FAULT: of a WORD its first byte", 7, "most 1;sharee by heads;");
        fault("the end (how many bytes there are)", 220, "most" + times(" ", 216));
        fault("the end (how many bytes there are)", 6, "most 1");
        fault("the end (how many bytes there are)", 9, "most 1   ");
        new Run("FULL (behind a FAULT)")
            .read(0, "").read(1, "").read(2, "").read(3, "").read(4, "").read(-104, "most").read(5, "").read(-104, "most;").read(FULL, "most 1;").read(FULL, "").is(6, "many(5)");
    }

    private static void lines() {
        String nine = "TEXT: 9 LINES at most";
        new Run(nine).read(0, times("most 1;", 8) + "interest 2;").is(9, "version(0, 0)").is(4, "version(0, 18)").is(2, "version(0, 38)").is(BAD, "version(0, 19)", "version(0, 39)");
        right(nine, times("most 1;", 9) + "   ", times("share by kin;", 9), times("free if favoured;", 9));
        fault("the tenth LINE: its first WORD", 63, times("most 1;", 10));
        fault("the tenth LINE: its first WORD", 65, times("most 1;", 9) + "  most 1;");
        fault("the tenth LINE: its first WORD", 63, times("most 1;", 9) + "most");
        fault("the tenth LINE: its first WORD", 63, times("most 1;", 9) + "wrong");
        fault("the tenth LINE: its first WORD", 99, times("interest 1;", 9) + "free if favoured;");
        fault("nine LINES, and another byte", 63, times("most 1;", 9) + ";");
        fault("in the ninth LINE", 61, times("most 1;", 8) + "most ;");
        fault("behind the ninth LINE's N", 62, times("most 1;", 8) + "most 1");
    }

    private static void versions() {
        new Run("VERSIONS, 6 at most, numbered as they come")
            .read(0, "most 1;").read(1, "").read(2, "most 3;").read(3, "").read(4, "").read(5, "most 6;").read(FULL, "most 7;").is(6, "many(5)", "version(5, 30)").is(BAD, "version(6, 0)");
        new Run("a TEXT that is read is THE TERMS from NOW on")
            .so("must(1)", "claim(1, 1, 239, -1)", "join(0, true)", "boxes(0, 1)", "months(5)").read(0, "rate 3;").so("boxes(4, 1)", "boxes(5, 1)", "months(1)", "boxes(6, 1)")
            .is(5, "version(0, 1)").is(0, "owe(0, 0, 6)", "owe(0, 4, 6)").is(3, "owe(0, 5, 6)", "owe(0, 6, 6)");
        new Run("in a MONTH THE TERMS are the latest that were read in it or ahead")
            .so("must(1)", "claim(1, 1, 239, -1)", "join(0, true)").read(0, "rate 1;").read(1, "rate 2;").so("boxes(0, 1)", "months(2)").read(2, "rate 3;").so("boxes(1, 1)", "boxes(2, 1)", "months(1)", "boxes(3, 1)").read(3, "rate 4;").read(4, "rate 5;")
            .is(2, "owe(0, 0, 3)", "owe(0, 1, 3)").is(3, "owe(0, 2, 3)").is(5, "owe(0, 3, 3)");
        new Run("a TEXT with a FAULT is no VERSION")
            .so("must(1)", "claim(1, 1, 239, -1)", "join(0, true)", "boxes(0, 1)").read(0, "rate 1;").read(-113, "rate 2;most 0").is(1, "owe(0, 0, 0)", "many(5)").is(BAD, "version(1, 0)");
        new Run("(none: an empty TEXT)")
            .so("must(1)", "claim(105, 1, 239, 3)", "claim(101, 1, 239, 3)", "claim(201, 1, 239, -1)", "join(1, true)", "join(2, true)", "boxes(0, 9)", "months(1)").read(0, "rate 10;share by worth;").so("boxes(1, 1)")
            .is(0, "owe(0, 0, 1)", "share(1, 0, 1)").is(10, "owe(0, 1, 1)").is(9, "share(1, 1, 1)");
    }

    private static Run pool(String sentence, String text) {
        return new Run(sentence).so("must(1)", "claim(102, 1, 239, 4)", "claim(101, 1, 239, 4)", "claim(211, 1, 239, -1)", "join(1, true)", "join(2, true)", "boxes(0, 10)", "boxes(1000, 20)").read(0, text);
    }

    private static void latestCounts() {
        String sort = "Of LINES of one sort the latest counts";
        pool(sort, "rate 1;most 9;most 25;").is(25, "owe(0, 0, 0)");
        pool(sort, "rate 1;most 25;most 9;").is(9, "owe(0, 0, 0)");
        pool(sort, "rate 1 over 1 rate 9;rate 2;").is(60, "owe(0, 0, 0)");
        pool(sort, "rate 2;rate 1 over 5 rate 2;").is(5 + 10 + 5 + 30, "owe(0, 0, 0)");
        pool(sort, "rate 1 over 1 rate 9 over 2 rate 8 over 3 rate 7;rate 1 over 5 rate 2;").is(5 + 10 + 5 + 30, "owe(0, 0, 0)");
        pool(sort, "rate 1;interest 5;interest 10;").is(33, "back(0, 1)");
        pool(sort, "rate 1;interest 10;interest 5;").is(31, "back(0, 1)");
        pool(sort, "rate 1;share by worth;share by kin;").is(15, "share(1, 0, 0)");
        pool(sort, "rate 1;share by kin;share by worth;").is(23, "share(1, 0, 0)");
        pool(sort, "rate 1;share by kin;share by heads;").is(20, "share(1, 0, 0)");
        String land = "of land: the latest for that LAND";
        pool(land, "rate 1;land 0 pays 50;land 1 pays 10;").is(7, "owe(0, 0, 0)");
        pool(land, "rate 1;land 1 pays 10;land 0 pays 30;land 0 pays 50;").is(7, "owe(0, 0, 0)");
        pool(land, "rate 1;land 3 pays 10;land 2 pays 30;").is(30, "owe(0, 0, 0)");
        String any = "of free: any";
        pool(any, "rate 1;free if land = 0;free if land = 1;").is(0, "owe(0, 0, 0)");
        pool(any, "rate 1;free if land = 0;free if land = 2;").is(20, "owe(0, 0, 0)");
        pool(any, "rate 1;free if land = 2;free if land = 1;").is(10, "owe(0, 0, 0)");
        pool(any, "rate 1;free if land = 2;free if land = 1 and not land = 1;").is(30, "owe(0, 0, 0)");
        String without = "Without them: share by heads, rate 0, no most, each LAND pays 100, interest 0";
        pool(without, "").is(0, "owe(0, 0, 0)", "back(0, 9)");
        pool(without, "rate 999;").is(30 * 999, "owe(0, 0, 0)", "back(0, 239)").is(20 * 999, "share(1, 0, 0)");
        pool(without, "most 5;").is(0, "owe(0, 0, 0)");
        new Run("Without them: each LAND pays 100")
            .so("must(1)", "claim(1, 1, 239, -1)", "claim(11, 1, 239, -1)", "claim(21, 1, 239, -1)", "claim(31, 1, 239, -1)", "join(0, true)", "boxes(0, 1)", "boxes(1000, 10)", "boxes(2000, 100)", "boxes(3000, 500)", "boxes(3000, 500)").read(0, "rate 1;").is(1111, "owe(0, 0, 0)");
        for (int l = 0; l < 4; l++) {
            new Run("each LAND pays 100, behind a VERSION in which it paid less").so("must(1)", "claim(" + (l * 10 + 1) + ", 1, 239, -1)", "join(0, true)", "boxes(" + l * 1000 + ", 10)").read(0, "rate 1;land " + l + " pays 50;").is(5, "owe(0, 0, 0)").read(1, "rate 1;").is(10, "owe(0, 0, 0)");
        }
        new Run("rate 0 without a LINE, behind a VERSION with an over")
            .so("must(1)", "claim(1, 1, 239, -1)", "join(0, true)", "boxes(0, 10)").read(0, "rate 1 over 3 rate 5 over 4 rate 6;").is(44, "owe(0, 0, 0)").read(1, "most 999;").is(0, "owe(0, 0, 0)");
        new Run("Without them, behind a VERSION that has them")
            .so("must(1)", "claim(105, 1, 239, -1)", "claim(201, 1, 239, -1)", "join(1, true)", "join(2, true)", "boxes(0, 10)").read(0, "rate 1 over 3 rate 5;share by worth;most 5;land 0 pays 10;interest 9;free if land = 0;").is(0, "owe(0, 0, 0)")
            .read(1, "rate 1;").is(10, "owe(0, 0, 0)", "back(0, 5)").is(5, "share(1, 0, 0)").read(2, "most 7;").is(0, "owe(0, 0, 0)");
    }

    private static void promiseVersion() {
        Run run = new Run("version: what = 0 how many LINES, 1 from which MONTH, 10 + i of LINE i its sort, 30 + i its HOW, or its first N (-9 of free)");
        run.so("months(9)").read(0, "share by worth;rate 7 over 8 rate 9;most 6;land 3 pays 5;interest 4;free if boxes = 3;share by heads;share by kin;").is(8, "version(0, 0)").is(9, "version(0, 1)");
        int[] sorts = {0, 1, 2, 3, 4, 5, 0, 0}, firsts = {2, 7, 6, 3, 4, -9, 0, 1};
        for (int i = 0; i < 8; i++) run.is(sorts[i], "version(0, " + (10 + i) + ")").is(firsts[i], "version(0, " + (30 + i) + ")");
        run.is(BAD, "version(0, 18)", "version(0, 38)", "version(0, 9)", "version(0, 29)", "version(0, 2)", "version(0, -1)", "version(0, min)", "version(0, max)");
        new Run("version: BAD: there is none such")
            .is(BAD, "version(0, 0)", "version(-1, 0)").read(0, "").is(0, "version(0, 0)", "version(0, 1)").is(BAD, "version(1, 0)", "version(-1, 0)", "version(6, 0)", "version(min, 0)", "version(max, 0)", "version(0, 10)", "version(0, 30)");
        new Run("version: another what")
            .read(0, "most 1;").is(2, "version(0, 10)").is(1, "version(0, 30)").is(BAD, "version(0, 11)", "version(0, 31)", "version(0, 2)", "version(0, 9)", "version(0, 19)", "version(0, 20)", "version(0, 29)", "version(0, 39)");
        new Run("version: of each its own")
            .read(0, "most 1;").so("months(2)").read(1, "rate 3;interest 4;").is(1, "version(0, 0)").is(0, "version(0, 1)").is(2, "version(1, 0)", "version(1, 1)").is(4, "version(1, 31)").is(BAD, "version(0, 31)");
    }
}
