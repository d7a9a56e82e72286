import java.util.HashMap;
import java.util.LinkedHashSet;
import java.util.Map;
import java.util.Random;
import java.util.Set;

/**
 * Promise 15 and passage 3: FAULT by its definition, the first piece with which no TEXT goes on.
 * All that may still come is held at once, as rests of the grammar, so that nothing is decided ahead as a reader of one way would do.
 */
public final class FaultTest {
    /** What may follow of each name; a piece begins with ', a NUMBER with #. */
    private static final Map<String, String[]> GRAMMAR = new HashMap<>();
    private static final String[] PIECES = {"share", "by", "heads", "kin", "worth", "rate", "over", "most", "land", "pays", "interest", "free", "if", "or", "and", "not",
        "(", ")", "favoured", "boxes", "maker", "month", "<", "=", ">", ";", "0", "3", "4", "999", "1000", "12", "x", "A", "\t", "\u0000", "\u00ff", "007", "0007"};
    private static final String[] LINES = {"share by heads;", "rate 1 over 2 rate 3;", "most 5;", "land 2 pays 50;", "interest 7;",
        "free if not (boxes<3 or favoured) and maker=2;", "rate 9 over 1 rate 8 over 4 rate 7 over 9 rate 6;", "free if ((((month>5))));", "share by kin;",
        "free if land=1 or land=2 and not not favoured;"};

    /** What may still come, and the N of the latest over in this LINE. */
    private record Rest(String due, int over) {
        String first() {
            int blank = due.indexOf(' ');
            return blank < 0 ? due : due.substring(0, blank);
        }

        String behind() {
            int blank = due.indexOf(' ');
            return blank < 0 ? "" : due.substring(blank + 1);
        }
    }

    static {
        for (int lines = 0; lines < 9; lines++) may("TEXT" + lines, "", "LINE '; TEXT" + (lines + 1));
        may("TEXT9", "");
        may("LINE", "'share 'by HOW", "'rate #N OVERS0", "'most #N", "'land #LAND 'pays #N", "'interest #N", "'free 'if COND0");
        may("HOW", "'heads", "'kin", "'worth");
        for (int overs = 0; overs < 3; overs++) may("OVERS" + overs, "", "'over #ABOVE 'rate #N OVERS" + (overs + 1));
        may("OVERS3", "");
        for (int open = 0; open <= 4; open++) {
            may("COND" + open, "ALL" + open + " ORS" + open);
            may("ORS" + open, "", "'or ALL" + open + " ORS" + open);
            may("ALL" + open, "ONE" + open + " ANDS" + open);
            may("ANDS" + open, "", "'and ONE" + open + " ANDS" + open);
            String bare = "NAME SIGN #N";
            if (open == 4) may("ONE" + open, "'not ONE" + open, "'favoured", bare);
            else may("ONE" + open, "'not ONE" + open, "'favoured", bare, "'( COND" + (open + 1) + " ')");
        }
        may("NAME", "'boxes", "'maker", "'land", "'month");
        may("SIGN", "'<", "'=", "'>");
    }

    private static void may(String name, String... ways) {
        GRAMMAR.put(name, ways);
    }

    /** Names are put away until each rest begins with a piece. */
    private static void open(Rest rest, Set<Rest> into) {
        String first = rest.first();
        if (first.isEmpty() || first.charAt(0) == '\'' || first.charAt(0) == '#') {
            into.add(rest);
            return;
        }
        for (String way : GRAMMAR.get(first)) {
            String gap = way.isEmpty() || rest.behind().isEmpty() ? "" : " ";
            open(new Rest(way + gap + rest.behind(), first.equals("LINE") ? -1 : rest.over), into);
        }
    }

    private static boolean isLetter(char c) {
        return c >= 'a' && c <= 'z';
    }

    private static boolean isDigit(char c) {
        return c >= '0' && c <= '9';
    }

    private static int endOfPiece(String text, int start) {
        int end = start + 1;
        char c = text.charAt(start);
        while (end < text.length() && (isLetter(c) && isLetter(text.charAt(end)) || isDigit(c) && isDigit(text.charAt(end)))) end++;
        return end;
    }

    private static void take(Rest rest, String piece, Set<Rest> into) {
        String due = rest.first();
        if (due.equals("'" + piece)) open(new Rest(rest.behind(), rest.over), into);
        if (due.isEmpty() || due.charAt(0) != '#' || !isDigit(piece.charAt(0)) || piece.length() > 3) return;
        int n = Integer.parseInt(piece);
        if (due.equals("#LAND") && n > 3 || due.equals("#ABOVE") && n <= rest.over) return;
        open(new Rest(rest.behind(), due.equals("#ABOVE") ? n : rest.over), into);
    }

    /** The fault of a text, or -1. */
    private static int fault(String text) {
        Set<Rest> rests = new LinkedHashSet<>();
        open(new Rest("TEXT0", -1), rests);
        int at = 0;
        while (true) {
            while (at < text.length() && text.charAt(at) == ' ') at++;
            if (at == text.length()) break;
            int end = endOfPiece(text, at);
            Set<Rest> next = new LinkedHashSet<>();
            for (Rest rest : rests) take(rest, text.substring(at, end), next);
            if (next.isEmpty()) return at;
            rests = next;
            at = end;
        }
        for (Rest rest : rests) if (rest.due.isEmpty()) return -1;
        return text.length();
    }

    private static String madeText(Random r) {
        StringBuilder b = new StringBuilder();
        int way = r.nextInt(5);
        for (int i = r.nextInt(way > 0 && r.nextInt(4) == 0 ? 11 : 5); i >= 0; i--) {
            b.append(way == 0 ? PIECES[r.nextInt(PIECES.length)] : LINES[r.nextInt(LINES.length)]).append(r.nextInt(3) == 0 ? "" : " ");
        }
        for (int i = way > 1 ? r.nextInt(3) : 0; i > 0 && b.length() > 0; i--) {
            int at = r.nextInt(b.length());
            String piece = PIECES[r.nextInt(PIECES.length)];
            switch (r.nextInt(4)) {
                case 0 -> b.setLength(at);
                case 1 -> b.deleteCharAt(at);
                case 2 -> b.insert(at, " " + piece + " ");
                default -> b.insert(at, piece);
            }
        }
        return b.substring(0, Math.min(b.length(), 220));
    }

    public static void main(String[] args) {
        Check c = new Check("Fault");
        Random r = new Random(args.length > 1 ? Long.parseLong(args[1]) : 3);
        int texts = args.length > 0 ? Integer.parseInt(args[0]) : 150000;
        int good = 0;
        for (int i = 0; i < texts; i++) {
            String text = madeText(r);
            int fault = fault(text);
            if (fault < 0) good++;
            c.due("read() of \"" + text + "\"", Check.readText(new BoxLeaves(), text), fault < 0 ? 0 : -100 - fault);
        }
        c.holds("texts with a fault and without one: " + good + " of " + texts, good > texts / 5 && good < texts * 4 / 5);
        c.end();
    }
}
