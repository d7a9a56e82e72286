import java.util.ArrayList;
import java.util.List;

/** "Answers below 0, where not told otherwise, are refusals; such a call changes nothing (but that THE TAPE is used up by read()); of several the first named." */
public final class EdgesRefusalsTest {
    private static final int BAD = -1, FULL = -2, NONE = -3, STATE = -4;
    private static final int NOTHING = -11, OUTSIDE = -12, OTHER = -13, BELOW = -14;

    public static void main(String[] args) {
        badOnes();
        fullOnes();
        otherOnes();
        firstNamed();
        readUsesUp();
        Run.end("EdgesRefusals");
    }

    /** Something of all that there is, with places left; MONTH 235, so that months() can be refused. */
    private static Run some(String sentence) {
        return new Run(sentence).so("must(1)", "must(6)", "way(1, 10)", "claim(105, 1, 239, 2)", "claim(9, 2, 239, -1)", "claim(213, 4, 239, -1)", "join(1, true)", "join(2, true)", "word(2, true)", "swear(0, 0)", "swear(0, 1)", "swear(1, 0)", "swear(2, 0)")
            .read(0, "rate 3 over 4 rate 2;interest 10;").so("boxes(0, 9)", "boxes(11000, 9)", "leave(0, 50, 0, 9, false)", "leave(1, 1, 0, 9, true)", "paid(0, 0, 1)", "drawn(0, 20, 30)", "ask(0, 3)", "ask(1, 4)", "machine(0, 10)", "crossed(2, 0, true)", "like(7, 2)")
            .so("keep()", "months(60)", "months(60)", "months(60)", "months(55)", "boxes(235, 9)", "join(0, true)", "prove(0)", "sheet(0, 0, 2)", "sheet(1, 3, 2)", "put(0, 1, 7)", "put(1, 0, 1001)", "shelf(0, 0, 0)", "shelf(1, 1, 0)", "shelf(2, 3, 1)", "act(0, 1, 5)").feed("most 77;");
    }

    /** All places taken. */
    private static Run full(String sentence) {
        Run run = new Run(sentence).read(0, "rate 3;").times(5, "read()");
        for (int i = 0; i < 6; i++) run.so("must(1)").times(3, "way(" + i + ", 1)");
        return run.times(14, "claim(1, 1, 239, -1)").so("claim(101, 1, 239, -1)", "claim(202, 2, 239, -1)", "join(0, true)").times(23, "join(1, true)").times(20, "word(14, false)").times(12, "boxes(0, 9)").times(12, "boxes(10000, 9)").times(7, "leave(0, 60, 0, 9, false)")
            .so("leave(1, 60, 0, 9, true)").times(16, "paid(0, 0, 1)").times(12, "drawn(0, 999, 999)").times(8, "like(9, 1)").so("keep()", "months(1)", "sheet(1, 3, 2)", "put(1, 0, 1001)", "shelf(0, 0, 15)", "act(0, 1, 4)", "prove(0)").times(26, "feed(2314885530818453536, 8)").so("feed(2314885530818453536, 4)").feed("most 77;");
    }

    /** All that can be asked, and at the end what can be seen by changing it alone. */
    private static String[] questions() {
        List<String> q = new ArrayList<>();
        for (int what = 0; what < 15; what++) q.add("many(" + what + ")");
        for (int c = 0; c < 16; c++) q.addAll(List.of("alive(" + c + ", 0, 0)", "alive(" + c + ", 239, 239)", "needed(" + c + ")", "round(" + c + ")"));
        q.addAll(List.of("members(0)", "members(239)", "among(true)", "among(false)", "sum(0, 239)", "sum(235, 239)", "judge(0)", "ring(0, 100)", "ring(0, 9999)"));
        for (int v = 0; v < 3; v++) q.addAll(List.of("version(" + v + ", 0)", "version(" + v + ", 1)", "version(" + v + ", 10)", "version(" + v + ", 30)"));
        for (int w : new int[] {0, 11000, 235, 10000}) q.addAll(List.of("count(" + w + ", 239)", "holes(" + w + ", 239, false)", "holes(" + w + ", 239, true)"));
        for (int m = 0; m < 6; m++) q.addAll(List.of("part(" + m + ", 0)", "owe(" + m + ", 0, 239)", "back(" + m + ", 239)", "under(" + m + ", 239)"));
        for (int o = 0; o < 8; o++) q.addAll(List.of("share(" + o + ", 0, 239)", "row(" + o + ", 0)", "row(" + o + ", 1)"));
        for (int way = 0; way < 3; way++) q.add("fair(1, 0, " + way + ")");
        for (int s = 0; s < 4; s++) q.addAll(List.of("item(" + s + ", 0, 1)", "item(" + s + ", 3, 0)", "taken(" + s + ", 0)", "taken(" + s + ", 13)"));
        for (int i = 0; i < 6; i++) q.add("trace(" + i + ")");
        for (int c = 0; c < 5; c++) q.addAll(List.of("swear(" + c + ", 1)", "swear(" + c + ", 0)"));
        for (int o = 0; o < 4; o++) q.addAll(List.of("ask(" + o + ", 0)", "crossed(" + o + ", 0, false)"));
        for (int m = 0; m < 6; m++) q.add("machine(" + m + ", 0)");
        q.addAll(List.of("read()", "version(1, 30)", "again()", "many(0)", "many(1)", "many(6)", "ask(0, 0)", "machine(0, 0)", "crossed(2, 0, true)"));
        return q.toArray(new String[0]);
    }

    private static final String[] QUESTIONS = questions();

    private static void sameBehind(boolean isFull, int due, String... refused) {
        String sentence = "such a call changes nothing";
        Run as = isFull ? full(sentence) : some(sentence);
        int[] before = new int[QUESTIONS.length];
        for (int i = 0; i < QUESTIONS.length; i++) before[i] = as.answer(QUESTIONS[i]);
        for (String call : refused) {
            Run run = isFull ? full(sentence) : some(sentence);
            run.is(due, call);
            for (int i = 0; i < QUESTIONS.length; i++) {
                int got = run.answer(QUESTIONS[i]);
                if (got != before[i]) run.fail("behind " + call + " " + QUESTIONS[i] + " answered " + got + ", without it " + before[i]);
            }
        }
    }

    private static void badOnes() {
        sameBehind(false, BAD, "months(0)", "months(61)", "claim(0, 1, 239, -1)", "claim(801, 1, 239, -1)", "claim(41, 1, 239, -1)", "claim(1, 0, 239, -1)", "claim(1, 4096, 239, -1)", "claim(1, 1, 5004, -1)", "claim(1, 1, 240, -1)", "claim(1, 1, 239, 8)", "claim(1, 1, 239, -2)", "word(-1, true)", "word(3, true)", "alive(3, 0, 0)", "alive(0, 240, 0)", "alive(0, 0, 240)",
            "join(8, true)", "join(-1, true)", "members(240)", "must(0)", "must(4096)", "way(2, 1)", "way(0, 0)", "way(-1, 1)", "needed(3)", "round(3)", "swear(3, 0)", "swear(1, 2)", "swear(1, -1)", "feed(0, 0)", "feed(0, 9)", "version(1, 0)", "version(0, 2)");
        sameBehind(false, BAD, "boxes(236, 1)", "boxes(0, 0)", "boxes(0, 1000)", "boxes(4000, 1)", "boxes(60000, 1)", "count(240, 0)", "count(0, 240)", "leave(6, 0, 0, 9, false)", "leave(0, 101, 0, 9, false)", "leave(0, -1, 0, 9, false)", "leave(0, 0, 9, 8, false)", "leave(0, 0, 0, 240, true)", "part(6, 0)", "part(0, 240)", "owe(6, 0, 0)", "owe(0, 240, 0)", "owe(0, 0, 240)", "paid(6, 0, 1)", "paid(0, 240, 1)", "paid(0, 0, 100000)", "paid(0, 0, -1)",
            "back(6, 0)", "back(0, 240)", "drawn(0, 31, 30)", "drawn(0, 0, 10000)", "drawn(0, -1, 0)", "drawn(60000, 50, 60)", "under(6, 0)", "under(0, 240)", "sum(240, 0)", "sum(0, 240)", "share(8, 0, 0)", "share(0, 240, 0)", "prove(240)", "prove(-1)", "judge(240)");
        sameBehind(false, BAD, "ask(8, 1)", "ask(0, 10000)", "ask(0, -1)", "ring(240, 0)", "ring(0, 100000)", "machine(6, 1)", "machine(0, 4)", "machine(0, 333334)", "machine(0, -1)", "crossed(8, 0, true)", "crossed(2, 6, false)", "crossed(-1, 0, true)", "holes(60000, 0, true)", "holes(0, 240, true)", "like(0, 1)", "like(10000, 1)", "like(1, 0)", "like(1, 100)", "fair(8, 0, 0)", "fair(0, 240, 0)", "fair(0, 0, 5)",
            "sheet(4, 0, 1)", "sheet(0, 4, 1)", "sheet(0, -2, 1)", "sheet(0, 0, 41)", "put(4, 0, 1)", "item(4, 0, 0)", "item(0, 4, 0)", "comes(4, 0, 1)", "comes(1, 0, 7)", "comes(1, 0, -1)", "shelf(4, 0, 0)", "shelf(0, 5, 0)", "shelf(0, 0, 3)", "shelf(0, 1, 3)", "shelf(0, 2, 2)", "shelf(0, 3, 4)", "shelf(0, -1, 0)", "taken(4, 0)", "taken(0, 7)", "many(15)");
    }

    private static void fullOnes() {
        sameBehind(true, FULL, "claim(305, 1, 239, -1)", "word(14, true)", "word(0, true)", "join(0, false)", "join(2, true)", "must(2)", "way(0, 2)", "way(5, 2)", "feed(0, 1)", "feed(-1, 8)", "boxes(0, 5)", "boxes(20000, 5)", "leave(0, 1, 0, 9, false)", "leave(2, 0, 0, 9, true)", "paid(0, 0, 50)", "drawn(0, 9999, 9999)", "drawn(10000, 9999, 9999)", "like(9999, 1)", "comes(1, 0, 1)");
    }

    private static void otherOnes() {
        sameBehind(false, STATE, "months(5)", "months(60)", "months(6)");
        sameBehind(true, STATE, "swear(0, 1)", "swear(15, 1)");
        sameBehind(true, NONE, "round(0)", "trace(9)", "trace(-1)");
        sameBehind(false, NOTHING, "put(2, 0, 5)", "put(3, 99, 5)", "item(2, 0, 0)", "comes(2, 0, 1)", "taken(3, 0)");
        sameBehind(false, OUTSIDE, "put(0, 2, 5)", "put(0, -1, 5)", "item(0, 0, 2)", "comes(1, 2, 1)", "comes(1, -1, 6)");
        sameBehind(false, OTHER, "item(0, 1, 0)", "comes(0, 0, 1)", "taken(0, 4)", "taken(2, 10)");
        sameBehind(false, BELOW, "sheet(0, 0, -1)", "sheet(1, 2, -1)", "sheet(2, 0, -40)");
        sameBehind(false, -9, "row(9, 0)", "row(0, 2)", "alterRow(9, 0, 5)", "alterRow(0, 2, 5)", "alterRow(-1, 1, 5)");
    }

    private static void firstNamed() {
        String first = "of several the first named";
        full(first).is(BAD, "claim(1, 1, 240, -1)", "word(16, true)", "join(8, true)", "must(0)", "way(0, 0)", "feed(0, 9)", "boxes(0, 1000)", "leave(0, 101, 0, 0, false)", "paid(0, 0, 100000)", "drawn(0, 1, 0)", "like(0, 0)", "comes(1, 0, 7)");
        full(first + ": BAD, NONE, STATE").is(BAD, "round(16)", "round(-1)", "swear(16, 1)", "swear(0, 2)", "fair(8, 0, 0)", "fair(2, 0, 5)").is(NONE, "round(0)").is(STATE, "swear(0, 1)");
        new Run(first + ": BAD, STATE of months").so("months(60)", "months(60)", "months(60)", "months(59)").is(BAD, "months(61)").is(STATE, "months(60)");
        full(first + ": a FAULT, FULL of read").is(FULL, "read()").read(-104, "most").read(FULL, "most 1;");
        new Run(first + ": BAD, -13, -11, -12 of the host").so("sheet(0, 0, 1)").is(BAD, "put(4, 99, 0)", "item(4, 9, 99)", "item(0, 9, 99)", "item(1, 4, 0)", "comes(0, 99, 7)", "comes(1, 99, -1)", "taken(4, 0)", "taken(0, 7)", "sheet(4, 0, -1)", "sheet(0, 4, -1)").is(OTHER, "item(0, 1, 99)", "comes(0, 99, 1)").is(NOTHING, "put(1, 99, 0)", "item(1, 0, 99)", "comes(1, 99, 1)", "taken(0, 0)").is(OUTSIDE, "put(0, 99, 0)", "item(0, 0, 99)");
    }

    private static void readUsesUp() {
        new Run("THE TAPE is used up by read()").feed("most;").is(5, "many(12)").is(-104, "read()").is(0, "many(12)", "many(5)").is(0, "read()");
        full("THE TAPE is used up by read(), which is FULL").is(220, "many(12)").is(FULL, "read()").is(0, "many(12)").is(6, "many(5)").is(0, "version(5, 0)").is(1, "version(0, 0)").is(FULL, "read()").is(8, "feed(0, 8)");
    }
}
