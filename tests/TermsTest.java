/** Promises 14 to 16: the tape, texts, versions. */
public final class TermsTest {
    private static final Check C = new Check("Terms");

    public static void main(String[] args) {
        tape();
        right();
        faults();
        limits();
        full();
        versions();
        C.end();
    }

    private static void tape() {
        BoxLeaves x = new BoxLeaves();
        for (int n : new int[] {0, -1, 9, Integer.MAX_VALUE}) C.due("feed(0, " + n + ")", x.feed(0, n), -1);
        for (int i = 1; i <= 27; i++) C.due("feed " + i, x.feed(-1L, 8), 8 * i);
        C.due("above 220", x.feed(0, 5), -2);
        C.due("above 220, wrong", x.feed(0, 9), -1);
        C.due("220", x.feed(0, 4), 220);
        C.due("above 220", x.feed(0, 1), -2);
        C.due("bytes", x.many(12), 220);
        C.due("read bytes 255", x.read(), -100);
        C.due("used up", x.many(12), 0);
        C.due("none is left", x.read(), 0);
        x.feed(0, 1);
        C.due("byte 0 is no blank", x.read(), -100);
        x.feed(0x3b352074736f6dL, 7);
        C.due("most 5;", x.read(), 1);
        C.due("what it says", x.version(1, 30), 5);
    }

    private static void right() {
        String[] texts = {
            "", "   ", "share by heads;", " share  by   kin ; ", "share by worth;most 0;", "most5;most 007;", "land0pays999;land 3 pays 0;",
            "rate 0;", "rate 1 over 0 rate 2;", "rate 5 over 1 rate 4 over 2 rate 3 over 999 rate 0;", "rate1over2rate3;",
            "interest 999;interest 0;", "free if favoured;", "free if not not not favoured;", "free if boxes<3;", "free if(boxes<3);",
            "free if maker=0or land>1and month<9;", "free if ((((favoured))));", "free if (favoured) and (favoured) or not(favoured);",
            "free if (((favoured) or favoured) and (((favoured))));"};
        for (String text : texts) {
            BoxLeaves x = new BoxLeaves();
            C.due("read \"" + text + "\"", Check.readText(x, text), 0);
        }
    }

    private static void fault(String text, int place) {
        BoxLeaves x = new BoxLeaves();
        C.due("fault of \"" + text + "\"", Check.readText(x, text), -100 - place);
        C.due("versions behind \"" + text + "\"", x.many(5), 0);
        C.due("tape behind \"" + text + "\"", x.many(12), 0);
    }

    private static void faults() {
        fault(";", 0);
        fault("  ;", 2);
        fault("shares by heads;", 0);
        fault("Share by heads;", 0);
        fault("whare by heads;", 0);
        fault("mostz 1;", 0);
        fault("mosta 1;", 0);
        fault("zmost 1;", 0);
        fault("most{1;", 4);
        fault("most`1;", 4);
        fault("most/1;", 4);
        fault("most:1;", 4);
        fault("share heads;", 6);
        fault("share by luck;", 9);
        fault("share by headsx;", 9);
        fault("share by;", 8);
        fault("share by heads", 14);
        fault("share by heads   ", 17);
        fault("share by heads most 1;", 15);
        fault("most;", 4);
        fault("most 1", 6);
        fault("most 1 2;", 7);
        fault("most 1000;", 5);
        fault("most 0000;", 5);
        fault("most 99999999999999999999;", 5);
        fault("most -1;", 5);
        fault("most 1,", 6);
        fault("most x;", 5);
        fault("rate;", 4);
        fault("rate 1 over;", 11);
        fault("rate 1 over 5;", 13);
        fault("rate 1 over 5 rate;", 18);
        fault("rate 1 rate 2;", 7);
        fault("rate 1 over 5 rate 1 over 5 rate 1;", 26);
        fault("rate 1 over 5 rate 1 over 4 rate 1;", 26);
        fault("rate 1 over 1000 rate 1;", 12);
        fault("rate 1 over 999 rate 1 over 999 rate 1;", 28);
        fault("rate 1 over 0 rate 2 over 1 rate 3 over 2 rate 4 over 3 rate 5;", 49);
        fault("land 4 pays 1;", 5);
        fault("land 0 pay 1;", 7);
        fault("land 0 pays;", 11);
        fault("land pays 1;", 5);
        fault("interest;", 8);
        fault("free;", 4);
        fault("free favoured;", 5);
        fault("free if;", 7);
        fault("free if not;", 11);
        fault("free if boxes;", 13);
        fault("free if boxes ! 3;", 14);
        fault("free if boxes <= 3;", 15);
        fault("free if boxes < ;", 16);
        fault("free if boxes < 1000;", 16);
        fault("free if claims < 3;", 8);
        fault("free if favoured favoured;", 17);
        fault("free if favoured and;", 20);
        fault("free if favoured or", 19);
        fault("free if favoured);", 16);
        fault("free if (favoured;", 17);
        fault("free if ();", 9);
        fault("free if favoured not;", 17);
        fault("free if favoured < 3;", 17);
        fault("most 1;\tmost 1;", 7);
        fault("most 1;" + (char) 233, 7);
        fault("most 1" + (char) 160 + ";", 6);
        fault("most 1;x", 7);
    }

    private static void limits() {
        fault("free if (((((favoured)))));", 12);
        fault("free if ((((favoured and not (favoured)))));", 29);
        fault(Check.times("most 1;", 10), 63);
        fault(Check.times("most 1;", 9) + "  9", 65);
        fault(Check.times("most 1;", 9) + ";", 63);
        BoxLeaves x = new BoxLeaves();
        C.due("nine lines and blanks", Check.readText(x, Check.times("most 1;", 9) + "   "), 0);
        C.due("lines", x.version(0, 0), 9);
        C.due("the ninth", x.version(0, 18), 2);
        C.due("the tenth", x.version(0, 19), -1);
        C.due("the tenth's N", x.version(0, 39), -1);
    }

    private static void full() {
        BoxLeaves x = new BoxLeaves();
        for (int v = 0; v < 6; v++) C.due("version " + v, Check.readText(x, "most " + v + ";"), v);
        C.due("a fault ahead of FULL", Check.readText(x, "most;"), -104);
        C.due("FULL", Check.readText(x, "most 9;"), -2);
        C.due("the tape behind FULL", x.many(12), 0);
        C.due("versions", x.many(5), 6);
        C.due("version(5, 30)", x.version(5, 30), 5);
    }

    private static void versions() {
        BoxLeaves x = new BoxLeaves();
        C.due("version of none", x.version(0, 0), -1);
        x.months(7);
        Check.readText(x, "interest 3;land 2 pays 50;most 9;rate 4 over 6 rate 5;free if favoured;share by worth;share by kin;share by heads;");
        C.due("lines", x.version(0, 0), 8);
        C.due("from", x.version(0, 1), 7);
        int[] sorts = {4, 3, 2, 1, 5, 0, 0, 0};
        int[] firsts = {3, 2, 9, 4, -9, 2, 1, 0};
        for (int i = 0; i < 8; i++) {
            C.due("sort " + i, x.version(0, 10 + i), sorts[i]);
            C.due("first " + i, x.version(0, 30 + i), firsts[i]);
        }
        for (int what : new int[] {-1, 2, 9, 18, 19, 20, 29, 38, 39, Integer.MIN_VALUE, Integer.MAX_VALUE}) C.due("version(0, " + what + ")", x.version(0, what), -1);
        C.due("version(-1, 0)", x.version(-1, 0), -1);
        C.due("version(1, 0)", x.version(1, 0), -1);
        C.due("an empty one", x.read(), 1);
        C.due("its lines", x.version(1, 0), 0);
        C.due("its first line", x.version(1, 10), -1);
    }
}
