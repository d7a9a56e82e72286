/** Passage 4 and promises 17 to 25: each sentence that names a boundary has a run of its own, both sides of it. */
public final class EdgesBoxesTest {
    private static final int BAD = -1, FULL = -2;

    public static void main(String[] args) {
        boxes();
        where();
        leaves();
        part();
        oweWhere();
        oweHowMuch();
        oweFree();
        paid();
        back();
        backAtMost();
        drawn();
        under();
        Run.end("EdgesBoxes");
    }

    /** One claim that is needed, in LAND 0, of OWNER 0, who is in; and the terms. */
    private static Run pool(String sentence, String terms) {
        return new Run(sentence).so("must(1)", "claim(1, 1, 239, -1)", "join(0, true)").read(0, terms);
    }

    private static void boxes() {
        new Run("BOXES, 24 times at most, numbered as they come")
            .numbers(0, 23, "boxes(0, 1)").is(FULL, "boxes(0, 1)").is(24, "many(6)", "count(0, 0)");
        new Run("so many (1 to 999)")
            .is(BAD, "boxes(0, 0)", "boxes(0, -1)", "boxes(0, 1000)", "boxes(0, min)", "boxes(0, max)").is(0, "many(6)", "boxes(0, 1)").is(1, "count(0, 0)", "boxes(0, 999)").is(1000, "count(0, 0)");
        new Run("in a MONTH (not behind NOW)")
            .is(BAD, "boxes(1, 1)", "boxes(239, 1)").is(0, "boxes(0, 1)").so("months(5)").is(1, "boxes(5, 1)").is(2, "boxes(4, 1)").is(3, "boxes(0, 1)").is(BAD, "boxes(6, 1)", "boxes(239, 1)");
        new Run("BOXES KNOWN from NOW on")
            .so("months(5)", "boxes(2, 7)").is(0, "count(2, 0)", "count(2, 2)", "count(2, 4)").is(7, "count(2, 5)", "count(2, 6)", "count(2, 239)");
        new Run("COUNT of a MAKER, LAND, MONTH as KNOWN at k: all together")
            .so("months(5)", "boxes(21004, 1)", "months(1)", "boxes(21004, 10)", "boxes(21004, 100)", "months(1)", "boxes(21004, 500)", "boxes(21005, 900)", "boxes(22004, 900)", "boxes(31004, 900)")
            .is(0, "count(21004, 4)").is(1, "count(21004, 5)").is(111, "count(21004, 6)").is(611, "count(21004, 7)", "count(21004, 239)");
        new Run("boxes: BAD; FULL")
            .times(24, "boxes(0, 999)").is(BAD, "boxes(0, 0)", "boxes(0, 1000)", "boxes(1, 1)", "boxes(60000, 1)", "boxes(-1, 1)").is(FULL, "boxes(0, 999)").is(23976, "count(0, 0)");
        new Run("count: BAD")
            .is(BAD, "count(0, -1)", "count(0, 240)", "count(0, min)", "count(0, max)").is(0, "count(0, 0)", "count(0, 239)");
    }

    private static void where() {
        new Run("where: 10000 times the MAKER, 1000 times the LAND, and the MONTH")
            .so("months(60)", "months(60)", "months(60)", "months(59)").is(0, "boxes(53239, 3)").is(3, "count(53239, 239)").is(0, "count(53238, 239)", "count(52239, 239)", "count(43239, 239)")
            .is(BAD, "boxes(53240, 1)", "boxes(53999, 1)", "boxes(54000, 1)", "boxes(54239, 1)", "boxes(59239, 1)", "boxes(60000, 1)", "boxes(-1, 1)", "boxes(-10000, 1)", "boxes(240, 1)", "boxes(999, 1)", "boxes(min, 1)", "boxes(max, 1)")
            .is(1, "boxes(0, 1)", "count(0, 239)");
        String[] others = {"count(%d, 0)", "drawn(%d, 0, 0)", "holes(%d, 0, false)"};
        for (String call : others) {
            Run run = new Run("where as above, in any MONTH: " + call);
            for (int w : new int[] {-1, -10000, 240, 999, 1240, 4000, 4239, 9000, 53240, 54000, 60000, 60239, 99999, Integer.MIN_VALUE, Integer.MAX_VALUE}) run.is(BAD, String.format(call, w));
            for (int w : new int[] {0, 1, 239, 3000, 3239, 50000, 53239}) run.so(String.format(call, w));
        }
    }

    private static void leaves() {
        new Run("LEAVES, 8 at most, numbered as they come")
            .numbers(0, 7, "leave(0, 50, 0, 0, false)").is(FULL, "leave(0, 50, 0, 0, false)", "leave(1, 0, 0, 0, true)").is(8, "many(7)").is(50, "part(0, 0)").is(100, "part(1, 0)");
        new Run("so much in the hundred (0 to 100)")
            .is(BAD, "leave(0, -1, 0, 0, false)", "leave(0, 101, 0, 0, false)", "leave(0, min, 0, 0, false)", "leave(0, max, 0, 0, false)")
            .is(0, "many(7)", "leave(0, 0, 0, 0, false)", "part(0, 0)").is(1, "leave(0, 100, 0, 0, false)").is(100, "part(0, 0)");
        new Run("from a MONTH to another one (not ahead of it)")
            .is(BAD, "leave(0, 1, 5, 4, false)", "leave(0, 1, 5, 4, true)", "leave(0, 1, 239, 0, false)", "leave(0, 1, -1, 0, false)", "leave(0, 1, 0, 240, false)", "leave(0, 1, 240, 240, false)", "leave(0, 1, -1, -1, true)", "leave(0, 1, 0, max, true)", "leave(0, 1, min, 0, false)")
            .is(0, "leave(0, 1, 5, 5, false)").is(100, "part(0, 4)", "part(0, 6)").is(1, "part(0, 5)", "leave(1, 2, 0, 239, false)").is(2, "part(1, 0)", "part(1, 239)", "leave(2, 3, 239, 239, false)").is(100, "part(2, 238)");
        new Run("or is favoured (then that does not matter)")
            .is(0, "leave(0, -1, 0, 239, true)").is(1, "leave(1, 101, 0, 239, true)").is(2, "leave(2, min, 0, 239, true)").is(3, "leave(3, max, 0, 239, true)").is(100, "part(0, 0)", "part(1, 0)", "part(2, 0)", "part(3, 0)");
        new Run("leave: BAD; FULL")
            .times(8, "leave(0, 1, 0, 0, false)").is(BAD, "leave(6, 1, 0, 0, false)", "leave(0, 101, 0, 0, false)", "leave(0, 1, 1, 0, false)", "leave(-1, 1, 0, 0, true)", "leave(0, 1, 0, 240, true)").is(FULL, "leave(0, 1, 0, 0, false)");
    }

    private static void part() {
        new Run("PART: that of the latest of its LEAVES for that MONTH (100 without)")
            .is(100, "part(0, 0)").so("leave(0, 60, 10, 20, false)", "leave(0, 80, 20, 30, false)", "leave(1, 5, 0, 239, false)")
            .is(100, "part(0, 9)", "part(0, 31)").is(60, "part(0, 10)", "part(0, 19)").is(80, "part(0, 20)", "part(0, 30)").is(5, "part(1, 15)");
        new Run("PART: the latest, where it isn't the least")
            .so("leave(0, 1, 0, 9, false)", "leave(0, 100, 5, 5, false)").is(1, "part(0, 4)", "part(0, 6)").is(100, "part(0, 5)");
        new Run("of a favoured one: the least of all other LEAVES for that MONTH that aren't favoured (100 without)")
            .so("leave(5, 0, 0, 30, true)").is(100, "part(5, 0)").so("leave(1, 70, 10, 20, false)", "leave(2, 50, 20, 25, false)", "leave(3, 90, 20, 20, false)", "leave(4, 0, 20, 20, true)")
            .is(100, "part(5, 9)", "part(5, 26)").is(70, "part(5, 10)", "part(5, 19)").is(50, "part(5, 20)", "part(5, 21)", "part(5, 25)", "part(4, 20)");
        new Run("of all other LEAVES: its own ones, too")
            .so("leave(0, 30, 0, 5, false)", "leave(0, 99, 5, 6, true)").is(30, "part(0, 4)", "part(0, 5)").is(100, "part(0, 6)");
        new Run("of a favoured one: 0 and 100 in the hundred")
            .so("leave(0, 7, 0, 9, true)", "leave(1, 100, 0, 9, false)").is(100, "part(0, 0)").so("leave(1, 0, 9, 9, false)").is(0, "part(0, 9)").is(100, "part(0, 8)");
        new Run("PART: a LEAVE behind a favoured one")
            .so("leave(1, 10, 0, 9, false)", "leave(0, 0, 0, 9, true)", "leave(0, 40, 0, 5, false)").is(40, "part(0, 5)").is(10, "part(0, 6)");
        new Run("part: BAD")
            .is(BAD, "part(-1, 0)", "part(6, 0)", "part(0, -1)", "part(0, 240)", "part(min, 0)", "part(max, 0)", "part(0, min)", "part(0, max)").is(100, "part(0, 239)", "part(5, 239)");
    }

    private static void oweWhere() {
        new Run("for each LAND in which some CLAIM")
            .so("must(1)", "claim(31, 1, 239, -1)", "join(0, true)", "boxes(0, 1)", "boxes(1000, 10)", "boxes(2000, 100)").read(0, "rate 1;").is(0, "owe(0, 0, 0)")
            .so("boxes(3000, 500)").is(500, "owe(0, 0, 0)").so("claim(21, 1, 239, -1)").is(600, "owe(0, 0, 0)").so("claim(1, 1, 239, -1)").is(601, "owe(0, 0, 0)").so("claim(11, 1, 239, -1)", "claim(11, 1, 239, -1)").is(611, "owe(0, 0, 0)");
        new Run("of an OWNER that is IN in that MONTH")
            .so("must(1)", "claim(701, 1, 239, -1)").read(0, "rate 1;").so("boxes(0, 5)", "join(0, true)").is(0, "owe(0, 0, 0)").so("months(3)", "join(7, true)", "boxes(2, 5)", "boxes(3, 5)").is(0, "owe(0, 0, 3)", "owe(0, 2, 3)").is(5, "owe(0, 3, 3)");
        new Run("is ALIVE (in it)")
            .so("must(1)", "claim(1, 1, 3004, -1)", "join(0, true)").read(0, "rate 1;").so("months(5)", "boxes(2, 5)", "boxes(3, 5)", "boxes(4, 5)", "boxes(5, 5)").is(0, "owe(0, 2, 5)", "owe(0, 5, 5)").is(5, "owe(0, 3, 5)", "owe(0, 4, 5)");
        pool("is ALIVE (in it, as KNOWN at k)", "rate 1;")
            .so("boxes(0, 5)", "months(4)", "word(0, true)", "months(2)", "word(0, false)").is(5, "owe(0, 0, 3)").is(0, "owe(0, 0, 4)", "owe(0, 0, 5)").is(5, "owe(0, 0, 6)");
        pool("and NEEDED", "rate 1;")
            .so("boxes(0, 5)").is(5, "owe(0, 0, 0)").so("way(0, 3)").is(5, "owe(0, 0, 0)").so("way(0, 2)").is(0, "owe(0, 0, 0)").so("must(1)").is(5, "owe(0, 0, 0)");
        new Run("one CLAIM must be all of these")
            .so("must(1)", "claim(1, 2, 239, -1)", "claim(101, 1, 239, -1)", "claim(1, 1, 239, -1)", "claim(11, 1, 239, -1)", "join(0, true)", "word(2, true)", "boxes(0, 5)").read(0, "rate 1;").is(0, "owe(0, 0, 0)").so("join(1, true)").is(5, "owe(0, 0, 0)");
        pool("owe: BAD", "rate 1;").so("boxes(50000, 3)")
            .is(BAD, "owe(-1, 0, 0)", "owe(6, 0, 0)", "owe(0, -1, 0)", "owe(0, 240, 0)", "owe(0, 0, -1)", "owe(0, 0, 240)", "owe(min, 0, 0)", "owe(max, 0, 0)", "owe(0, min, 0)", "owe(0, max, 0)", "owe(0, 0, min)", "owe(0, 0, max)")
            .is(0, "owe(0, 239, 0)", "owe(0, 0, 239)").is(3, "owe(5, 0, 0)", "owe(5, 0, 239)");
    }

    private static void oweHowMuch() {
        pool("of COUNT as many as stand above an over pay its rate, others the one ahead of it", "rate 1 over 3 rate 10;")
            .is(0, "owe(0, 0, 0)").so("boxes(0, 3)").is(3, "owe(0, 0, 0)").so("boxes(0, 1)").is(13, "owe(0, 0, 0)").so("boxes(0, 1)").is(23, "owe(0, 0, 0)");
        pool("as many as stand above an over: over 0", "rate 1 over 0 rate 10;").so("boxes(0, 1)").is(10, "owe(0, 0, 0)");
        pool("as many as stand above an over: over 999", "rate 1 over 999 rate 10;").so("boxes(0, 999)").is(999, "owe(0, 0, 0)").so("boxes(0, 1)").is(1009, "owe(0, 0, 0)");
        pool("as many as stand above three", "rate 5 over 2 rate 30 over 4 rate 0 over 5 rate 700;")
            .so("boxes(0, 2)").is(10, "owe(0, 0, 0)").so("boxes(0, 1)").is(40, "owe(0, 0, 0)").so("boxes(0, 1)").is(70, "owe(0, 0, 0)").so("boxes(0, 1)").is(70, "owe(0, 0, 0)").so("boxes(0, 1)").is(770, "owe(0, 0, 0)");
        pool("that sum times what the LAND pays by 100, cut", "rate 1;land 0 pays 199;").so("boxes(0, 1)").is(1, "owe(0, 0, 0)").so("boxes(0, 1)").is(3, "owe(0, 0, 0)");
        pool("what the LAND pays: 0, and 1", "rate 99;land 0 pays 0;").so("boxes(0, 1)").is(0, "owe(0, 0, 0)").read(1, "rate 99;land 0 pays 1;").is(0, "owe(0, 0, 0)").read(2, "rate 100;land 0 pays 1;").is(1, "owe(0, 0, 0)");
        pool("cut in each LAND", "rate 1;land 0 pays 150;land 1 pays 150;").so("claim(11, 1, 239, -1)", "boxes(0, 1)", "boxes(1000, 1)").is(2, "owe(0, 0, 0)");
        pool("the rate's steps are of each LAND's COUNT", "rate 1 over 1 rate 10;").so("claim(11, 1, 239, -1)", "boxes(0, 1)", "boxes(1000, 1)").is(2, "owe(0, 0, 0)");
        pool("all LANDS together times PART by 100, cut", "rate 1;").so("claim(11, 1, 239, -1)", "boxes(0, 1)", "boxes(1000, 1)", "leave(0, 50, 0, 0, false)").is(1, "owe(0, 0, 0)").so("leave(0, 49, 0, 0, false)").is(0, "owe(0, 0, 0)").so("leave(0, 99, 0, 0, false)").is(1, "owe(0, 0, 0)").so("leave(0, 0, 0, 0, false)").is(0, "owe(0, 0, 0)");
        pool("most at most", "rate 1;most 10;").so("boxes(0, 9)").is(9, "owe(0, 0, 0)").so("boxes(0, 1)").is(10, "owe(0, 0, 0)").so("boxes(0, 1)").is(10, "owe(0, 0, 0)");
        pool("most 0", "rate 1;most 0;").so("boxes(0, 9)").is(0, "owe(0, 0, 0)");
        pool("most at most, behind PART", "rate 1;most 10;").so("boxes(0, 20)", "leave(0, 50, 0, 0, false)").is(10, "owe(0, 0, 0)").so("boxes(0, 4)").is(10, "owe(0, 0, 0)").so("leave(0, 40, 0, 0, false)").is(9, "owe(0, 0, 0)");
        pool("PART of a MAKER in that MONTH", "rate 1;").so("boxes(0, 10)", "leave(0, 50, 0, 0, false)", "leave(0, 20, 1, 239, false)").is(5, "owe(0, 0, 0)", "owe(0, 0, 1)", "owe(0, 0, 239)");
        pool("OWE as KNOWN at k", "rate 1;").so("boxes(0, 1)", "months(5)", "boxes(0, 10)").is(1, "owe(0, 0, 4)").is(11, "owe(0, 0, 5)");
        pool("the greatest OWE", "rate 999;land 0 pays 999;").times(24, "boxes(0, 999)").is(239280719, "owe(0, 0, 0)");
    }

    private static void free(int due, String cond) {
        new Run("for whose COUNT no free holds").so("must(1)", "join(0, true)", "claim(1, 1, 239, -1)", "claim(11, 1, 239, -1)", "months(8)").read(0, "rate 1;free if " + cond + ";").so("boxes(30008, 10)", "boxes(31008, 200)").is(due, "owe(3, 8, 8)");
    }

    private static void freeLeave(boolean favoured, int due, String cond) {
        new Run("ONE: favoured").so("must(1)", "join(0, true)", "claim(1, 1, 239, -1)", "claim(11, 1, 239, -1)", "leave(3, 100, 0, 239, " + favoured + ")", "leave(2, 100, 0, 239, " + !favoured + ")").read(0, "rate 1;free if " + cond + ";").so("boxes(30000, 10)", "boxes(31000, 200)").is(due, "owe(3, 0, 0)");
    }

    /** Of COUNT n. */
    private static void freeAt(String line, int n, boolean isFree) {
        pool("NAME SIGN N: " + line, "rate 1;" + line).times(n / 1000, "boxes(0, 1)").so("boxes(0, " + (n - n / 1000) + ")").is(isFree ? 0 : n, "owe(0, 0, 0)");
    }

    private static void oweFree() {
        freeAt("free if boxes < 999;", 998, true);
        freeAt("free if boxes < 999;", 999, false);
        freeAt("free if boxes = 999;", 998, false);
        freeAt("free if boxes = 999;", 999, true);
        freeAt("free if boxes = 999;", 1000, false);
        freeAt("free if boxes > 999;", 999, false);
        freeAt("free if boxes > 999;", 1000, true);
        freeAt("free if boxes < 1;", 1, false);
        freeAt("free if boxes = 0;", 1, false);
        freeAt("free if boxes > 0;", 1, true);
        freeAt("free if not boxes > 0;", 1, false);
        freeAt("free if maker > 999;", 5, false);
        freeAt("free if land = 999 or month = 999;", 5, false);
        freeAt("free if maker < 999;", 5, true);
        freeAt("free if land < 999;", 5, true);
        freeAt("free if month < 999;", 5, true);
        free(210, "boxes < 10");
        free(200, "boxes < 11");
        free(210, "boxes = 9 or boxes = 11");
        free(200, "boxes = 10");
        free(10, "boxes > 10");
        free(0, "boxes > 9");
        free(210, "maker < 3");
        free(0, "maker < 4");
        free(0, "maker = 3");
        free(210, "maker = 2 or maker = 4");
        free(210, "maker > 3");
        free(0, "maker > 2");
        free(210, "land < 0");
        free(200, "land < 1");
        free(0, "land < 2");
        free(10, "land = 1");
        free(210, "land > 1");
        free(10, "land > 0");
        free(210, "month < 8");
        free(0, "month < 9");
        free(0, "month = 8");
        free(210, "month = 7 or month = 9");
        free(210, "month > 8");
        free(0, "month > 7");
        free(0, "not favoured");
        free(200, "not not land = 0");
        free(10, "not land = 0");
        free(200, "land = 0 or land = 1 and maker = 4");
        free(210, "(land = 0 or land = 1) and maker = 4");
        free(200, "not (land = 1 or maker = 4)");
        free(200, "not land = 1 and (maker = 4 or month = 8)");
        free(200, "land = 0 or land = 2 or land = 3");
        free(200, "land = 2 or land = 0 or land = 3");
        free(200, "land = 2 or land = 3 or land = 0");
        free(200, "land = 2 or land = 3 or land = 4 or land = 0 and maker = 3");
        free(200, "land = 0 or land = 2 and maker = 3 or land = 3 or maker = 4");
        free(210, "land = 0 and land = 1 and maker = 3");
        free(200, "maker = 3 and month = 8 and land = 0");
        for (int leave = 0; leave < 2; leave++) {
            boolean is = leave == 1;
            freeLeave(is, is ? 0 : 210, "favoured");
            freeLeave(is, is ? 210 : 0, "not favoured");
            freeLeave(is, is ? 200 : 210, "land = 0 and favoured");
            freeLeave(is, is ? 200 : 210, "favoured and land = 0");
            freeLeave(is, is ? 0 : 200, "land = 0 or favoured");
            freeLeave(is, is ? 0 : 200, "favoured or land = 0");
            freeLeave(is, 200, "land = 0 or favoured and land = 2");
            freeLeave(is, 200, "land = 0 and (favoured or not favoured)");
            freeLeave(is, is ? 210 : 200, "land = 0 and not favoured");
            freeLeave(is, is ? 10 : 210, "land = 1 and (land = 0 or favoured)");
        }
        Run run = pool("favoured; the latest LEAVE is", "rate 1;free if favoured;").so("boxes(0, 9)").is(9, "owe(0, 0, 0)").so("leave(0, 100, 0, 0, true)").is(0, "owe(0, 0, 0)").so("leave(0, 100, 0, 0, false)").is(9, "owe(0, 0, 0)");
        run.so("leave(1, 100, 0, 0, true)", "leave(0, 100, 1, 9, true)").is(9, "owe(0, 0, 0)").so("leave(0, 100, 0, 0, true)", "leave(0, 100, 1, 9, false)").is(0, "owe(0, 0, 0)");
        pool("favoured: the latest LEAVE for that MONTH is", "rate 1;free if favoured;").so("boxes(0, 10)", "leave(0, 50, 0, 0, true)", "leave(0, 20, 1, 239, false)").is(0, "owe(0, 0, 0)", "owe(0, 0, 1)", "owe(0, 0, 239)").so("leave(0, 100, 0, 0, false)", "leave(0, 50, 1, 239, true)").is(10, "owe(0, 0, 0)", "owe(0, 0, 1)");
        pool("month: the one that is owed for", "rate 1;free if month = 0;").so("months(2)", "boxes(0, 10)", "boxes(1, 10)").is(0, "owe(0, 0, 2)", "owe(0, 0, 239)").is(10, "owe(0, 1, 2)");
        pool("boxes: COUNT, as KNOWN at k", "rate 1;free if boxes < 3;").so("boxes(0, 2)", "months(1)", "boxes(0, 1)").is(0, "owe(0, 0, 0)").is(3, "owe(0, 0, 1)");
    }

    private static void paid() {
        new Run("PAID, 16 times at most")
            .numbers(1, 16, "paid(0, 0, 1)").is(FULL, "paid(0, 0, 1)").is(16, "many(8)");
        pool("PAID, the sixteenth counts", "rate 1;").so("boxes(0, 99)").times(15, "paid(0, 0, 1)").is(84, "back(0, 1)").is(16, "paid(0, 0, 1)").is(83, "back(0, 1)").is(FULL, "paid(0, 0, 1)").is(83, "back(0, 1)");
        new Run("so much (0 to 99999)")
            .is(BAD, "paid(0, 0, -1)", "paid(0, 0, 100000)", "paid(0, 0, min)", "paid(0, 0, max)").is(0, "many(8)").is(1, "paid(0, 0, 0)").is(2, "paid(0, 0, 99999)");
        new Run("paid: a MAKER, for a MONTH: BAD; FULL")
            .is(BAD, "paid(-1, 0, 0)", "paid(6, 0, 0)", "paid(0, -1, 0)", "paid(0, 240, 0)", "paid(min, 0, 0)", "paid(max, 0, 0)", "paid(0, min, 0)", "paid(0, max, 0)").is(1, "paid(5, 239, 0)").times(15, "paid(0, 0, 0)")
            .is(FULL, "paid(0, 0, 0)").is(BAD, "paid(6, 0, 0)", "paid(0, 240, 0)", "paid(0, 0, 100000)");
    }

    private static void back() {
        pool("for each MONTH ahead of k", "rate 1;").so("boxes(0, 1)", "months(1)", "boxes(1, 10)", "months(1)", "boxes(2, 100)").is(0, "back(0, 0)").is(1, "back(0, 1)").is(11, "back(0, 2)").is(111, "back(0, 3)");
        pool("for each MONTH ahead of k, all told in MONTH 3", "rate 1;").so("months(3)", "boxes(0, 1)", "boxes(1, 10)", "boxes(2, 100)", "boxes(3, 500)").is(0, "back(0, 0)", "back(0, 1)", "back(0, 2)").is(111, "back(0, 3)").is(611, "back(0, 4)", "back(0, 239)");
        pool("as KNOWN at k", "rate 1;").so("boxes(0, 1)", "months(2)", "boxes(0, 10)").is(0, "back(0, 0)").is(1, "back(0, 1)").is(11, "back(0, 2)");
        pool("OWE less what was PAID for it (0 at least)", "rate 1;").so("boxes(0, 10)", "months(1)", "boxes(1, 5)", "paid(0, 0, 9)").is(1 + 5, "back(0, 2)").so("paid(0, 0, 1)").is(5, "back(0, 2)").so("paid(0, 0, 1)").is(5, "back(0, 2)").so("paid(0, 0, 99999)").is(5, "back(0, 2)").so("paid(0, 1, 4)").is(1, "back(0, 2)").so("paid(0, 1, 1)").is(0, "back(0, 2)");
        pool("what was PAID for it: of that MAKER, for that MONTH", "rate 1;").so("boxes(0, 10)", "paid(1, 0, 5)", "paid(0, 1, 5)").is(10, "back(0, 1)").so("paid(0, 0, 3)", "paid(0, 0, 4)").is(3, "back(0, 1)");
        pool("PAID (at any time)", "rate 1;").so("paid(0, 0, 3)", "months(1)", "boxes(0, 10)", "months(5)", "paid(0, 0, 4)").is(3, "back(0, 1)", "back(0, 6)", "back(0, 7)");
        pool("interest in the hundred of that for each MONTH from it to k, cut", "rate 1;interest 10;").so("boxes(0, 9)").is(9, "back(0, 1)").is(10, "back(0, 2)").is(9 + 2, "back(0, 3)").is(9 + 9, "back(0, 10)").is(9 + 9, "back(0, 11)").is(9 + 10, "back(0, 12)");
        pool("interest: cut for each MONTH that is owed for", "rate 1;interest 10;").so("boxes(0, 9)", "months(1)", "boxes(1, 9)").is(9 + 1 + 9, "back(0, 2)").is(9 + 2 + 9 + 1, "back(0, 3)");
        pool("interest of what is left, not of OWE", "rate 1;interest 100;").so("boxes(0, 10)", "paid(0, 0, 8)").is(4, "back(0, 1)").so("paid(0, 0, 2)").is(0, "back(0, 1)");
        pool("interest of THE TERMS of that MONTH", "rate 1;").so("boxes(0, 10)", "months(2)").read(1, "rate 1;interest 50;").so("boxes(1, 10)", "boxes(2, 10)").is(10 + 10, "back(0, 2)").is(10 + 10 + 15, "back(0, 3)").is(10 + 10 + 20, "back(0, 4)");
        pool("interest 0 and 999", "rate 1;interest 999;").so("boxes(0, 10)").is(10 + 99, "back(0, 1)").is(10 + 199, "back(0, 2)").read(1, "rate 1;interest 0;").is(10, "back(0, 2)");
        pool("back: BAD", "rate 1;").so("boxes(50000, 10)").is(BAD, "back(-1, 1)", "back(6, 1)", "back(0, -1)", "back(0, 240)", "back(min, 1)", "back(max, 1)", "back(0, min)", "back(0, max)").is(0, "back(5, 0)", "back(0, 239)").is(10, "back(5, 1)", "back(5, 239)");
        pool("the last MONTH that may be owed for", "rate 1;").so("months(60)", "months(60)", "months(60)", "months(59)", "boxes(238, 10)", "boxes(239, 10)").is(10, "back(0, 239)");
    }

    /** OWE is 200009380: 20041 by 999, by 999 in the hundred, cut; interest 9 for 100 MONTHS makes ten times what is left. */
    private static Run greatDebt(int paid) {
        return pool("BACK: all together, 2000000000 at most", "rate 999;land 0 pays 999;interest 9;").times(20, "boxes(0, 999)").so("boxes(0, 61)").is(200009380, "owe(0, 0, 0)").so("paid(0, 0, " + paid + ")");
    }

    private static void backAtMost() {
        greatDebt(9381).is(1999999990, "back(0, 100)");
        greatDebt(9380).is(2000000000, "back(0, 100)").is(1982000000, "back(0, 99)").is(2000000000, "back(0, 101)");
        greatDebt(9379).is(2000000000, "back(0, 100)");
        greatDebt(0).is(2000000000, "back(0, 100)", "back(0, 239)");
        pool("2000000000 at most: far above it", "rate 999;land 0 pays 999;interest 999;").times(24, "boxes(0, 999)").is(2000000000, "back(0, 239)", "back(0, 1)");
        pool("2000000000 at most: of all MONTHS together", "rate 999;land 0 pays 999;interest 9;").so("months(2)").times(12, "boxes(0, 999)").times(12, "boxes(1, 999)").is(119640359, "owe(0, 0, 2)").is(2000000000, "back(0, 100)").is(119640359 + 96908690 + 119640359 + 86141058, "back(0, 9)").is(0, "back(0, 0)");
    }

    private static void drawn() {
        new Run("DRAWN, 12 at most")
            .numbers(0, 11, "drawn(0, 0, 0)").is(FULL, "drawn(0, 0, 0)").is(12, "many(9)");
        new Run("DRAWN, the twelfth counts").times(11, "drawn(0, 1, 1)").is(1, "under(0, 0)").is(11, "drawn(0, 9, 9)").is(9, "under(0, 0)").is(FULL, "drawn(0, 20, 20)").is(9, "under(0, 0)");
        new Run("from so many to so many BOXES (0 to 9999)")
            .is(BAD, "drawn(0, -1, 0)", "drawn(0, -1, -1)", "drawn(0, 0, 10000)", "drawn(0, 10000, 10000)", "drawn(0, min, 0)", "drawn(0, 0, max)", "drawn(0, max, max)").is(0, "many(9)").is(0, "drawn(0, 0, 0)").is(1, "drawn(0, 0, 9999)").is(2, "drawn(0, 9999, 9999)");
        new Run("drawn: BAD: also to below from")
            .is(BAD, "drawn(0, 6, 5)", "drawn(0, 1, 0)", "drawn(0, 9999, 9998)", "drawn(0, 5, min)").is(0, "drawn(0, 5, 5)").is(1, "drawn(0, 5, 6)");
        new Run("drawn: BAD; FULL")
            .times(12, "drawn(0, 1, 1)").is(BAD, "drawn(60000, 1, 1)", "drawn(0, 1, 0)", "drawn(0, 0, 10000)", "drawn(-1, 0, 0)").is(FULL, "drawn(0, 1, 1)");
    }

    private static void under() {
        new Run("how much COUNT is below the greatest from of these (0 at least)")
            .so("boxes(0, 10)").is(0, "under(0, 0)").so("drawn(0, 9, 9999)").is(0, "under(0, 0)").so("drawn(0, 10, 10)").is(0, "under(0, 0)").so("drawn(0, 11, 11)").is(1, "under(0, 0)").so("drawn(0, 8, 9999)").is(1, "under(0, 0)").so("drawn(0, 13, 13)").is(3, "under(0, 0)").so("drawn(0, 13, 13)").is(3, "under(0, 0)");
        new Run("the sum, over LANDS and MONTHS that were DRAWN")
            .so("drawn(20000, 1, 1)", "drawn(23000, 10, 10)", "drawn(20239, 100, 100)", "drawn(23239, 1000, 1000)", "drawn(30000, 5000, 5000)", "drawn(10000, 5000, 5000)").is(1111, "under(2, 0)").is(5000, "under(1, 0)", "under(3, 0)").is(0, "under(0, 0)", "under(4, 0)");
        new Run("from 0: COUNT is never below it")
            .so("drawn(0, 0, 0)", "drawn(1000, 0, 9999)", "drawn(2000, 1, 1)").is(1, "under(0, 0)").so("drawn(0, 1, 1)").is(2, "under(0, 0)");
        new Run("0 at least, in each LAND and MONTH")
            .so("boxes(0, 100)", "drawn(0, 10, 10)", "drawn(1000, 7, 7)").is(7, "under(0, 0)");
        new Run("UNDER of a MAKER as KNOWN at k")
            .so("drawn(0, 10, 10)", "months(4)", "boxes(0, 3)", "months(1)", "boxes(0, 3)").is(10, "under(0, 0)", "under(0, 3)").is(7, "under(0, 4)").is(4, "under(0, 5)", "under(0, 239)");
        new Run("under: BAD")
            .so("drawn(50000, 2, 2)").is(BAD, "under(-1, 0)", "under(6, 0)", "under(0, -1)", "under(0, 240)", "under(min, 0)", "under(max, 0)", "under(0, min)", "under(0, max)").is(2, "under(5, 0)", "under(5, 239)");
    }
}
