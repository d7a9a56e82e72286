/** Passage 8 and promises 39 to 47: each sentence that names a boundary has a run of its own, both sides of it. More than 7 bodies can't run in one act, and no item is wider than an int. */
public final class EdgesHostTest {
    private static final int BAD = -1, FULL = -2, NONE = -3;
    private static final int NOTHING = -11, OUTSIDE = -12, OTHER = -13, BELOW = -14, BY_ZERO = -15;
    private static final int MIN = Integer.MIN_VALUE, MAX = Integer.MAX_VALUE;

    public static void main(String[] args) {
        sheets();
        putAndItem();
        narrowed();
        comes();
        comesNumbers();
        shelves();
        shelvesOfRows();
        taken();
        kinds();
        bodiesOfClaims();
        bodiesOfOthers();
        wraps();
        byZero();
        noTrace();
        many();
        Run.end("EdgesHost");
    }

    private static void sheets() {
        new Run("SHEETS 0 to 3").is(1, "sheet(0, 0, 1)", "sheet(3, 0, 1)").is(BAD, "sheet(-1, 0, 1)", "sheet(4, 0, 1)", "sheet(min, 0, 1)", "sheet(max, 0, 1)", "put(-1, 0, 1)", "put(4, 0, 1)", "item(-1, 0, 0)", "item(4, 0, 0)", "comes(-1, 0, 0)", "comes(4, 0, 0)").is(1, "put(0, 0, 1)", "put(3, 0, 1)").is(1, "item(0, 0, 0)", "item(3, 0, 0)");
        new Run("bytes (sort 0), shorts (1), ints (2) or longs (3)").is(BAD, "sheet(0, -2, 1)", "sheet(0, 4, 1)", "sheet(0, min, 1)", "sheet(0, max, 1)").is(1, "sheet(0, 0, 1)", "sheet(1, 3, 1)").is(0, "item(0, 0, 0)", "item(1, 3, 0)").is(BAD, "item(0, -1, 0)", "item(0, 4, 0)", "item(0, min, 0)", "item(0, max, 0)");
        new Run("40 at most").is(BAD, "sheet(0, 0, 41)", "sheet(0, 3, 41)", "sheet(0, 3, max)").is(NOTHING, "put(0, 0, 1)").is(1, "sheet(0, 3, 40)", "put(0, 39, 7)").is(7, "item(0, 3, 39)").is(OUTSIDE, "put(0, 40, 7)", "item(0, 3, 40)");
        new Run("or missing (at first)").is(NOTHING, "put(0, 0, 0)", "put(1, 0, 0)", "put(2, 0, 0)", "put(3, 0, 0)", "item(0, 0, 0)", "item(3, 3, 0)", "comes(0, 0, 0)", "comes(3, 0, 1)");
        new Run("missing (sort -1, every n then)").so("sheet(0, 0, 1)", "sheet(1, 0, 1)", "sheet(2, 0, 1)", "sheet(3, 0, 1)").is(1, "sheet(0, -1, -1)", "sheet(1, -1, 41)", "sheet(2, -1, min)", "sheet(3, -1, max)").is(NOTHING, "put(0, 0, 1)", "put(1, 0, 1)", "item(2, 0, 0)", "item(3, 0, 0)");
        new Run("-14 a size below 0").is(BELOW, "sheet(0, 0, -1)", "sheet(0, 3, -1)", "sheet(0, 1, min)").is(1, "sheet(0, 2, 0)").is(OUTSIDE, "put(0, 0, 1)", "item(0, 2, 0)").is(BELOW, "sheet(0, 0, -1)").is(OTHER, "item(0, 0, 0)");
        new Run("sheet: BAD ahead of -14").is(BAD, "sheet(4, 0, -1)", "sheet(-1, 0, -1)", "sheet(0, 4, -1)", "sheet(0, -2, -1)", "sheet(4, -1, -1)").is(NOTHING, "put(0, 0, 1)");
        new Run("A SHEET becomes a row of n of a sort, all 0").so("sheet(0, 2, 3)", "put(0, 0, 5)", "put(0, 2, 6)").is(1, "sheet(0, 2, 3)").is(0, "item(0, 2, 0)", "item(0, 2, 1)", "item(0, 2, 2)").so("put(0, 1, 7)").is(1, "sheet(0, -1, 0)", "sheet(0, 2, 2)").is(0, "item(0, 2, 1)").is(OUTSIDE, "item(0, 2, 2)").is(1, "sheet(0, 1, 2)").is(OTHER, "item(0, 2, 0)").is(0, "item(0, 1, 0)");
        new Run("a SHEET of 40, all 0").so("sheet(3, 3, 40)", "put(3, 39, 5)", "put(3, 0, 5)").is(1, "sheet(3, 3, 40)").is(0, "item(3, 3, 39)", "item(3, 3, 0)");
        new Run("one SHEET beside the others").so("sheet(0, 2, 3)", "sheet(1, 2, 3)", "put(0, 1, 5)").is(5, "item(0, 2, 1)").is(0, "item(1, 2, 1)");
    }

    private static void putAndItem() {
        new Run("put: BAD: no such SHEET; -11; -12").is(BAD, "put(4, 99, 1)", "put(-1, -1, 1)").is(NOTHING, "put(0, -1, 1)", "put(0, 0, 1)", "put(0, max, 1)").so("sheet(0, 2, 2)").is(OUTSIDE, "put(0, -1, 1)", "put(0, 2, 1)", "put(0, min, 1)", "put(0, max, 1)").is(1, "put(0, 0, 8)", "put(0, 1, 9)").is(8, "item(0, 2, 0)").is(9, "item(0, 2, 1)");
        new Run("item: BAD: no such SHEET, sort").so("sheet(0, 2, 2)").is(BAD, "item(4, 2, 0)", "item(-1, 2, 0)", "item(0, -1, 0)", "item(0, 4, 0)", "item(1, 4, 99)", "item(4, 0, 99)");
        new Run("item: -13 ahead of -12").so("sheet(0, 2, 2)").is(OTHER, "item(0, 0, 0)", "item(0, 1, 1)", "item(0, 3, 0)", "item(0, 3, 2)", "item(0, 0, -1)").is(OUTSIDE, "item(0, 2, 2)", "item(0, 2, -1)", "item(0, 2, min)", "item(0, 2, max)").is(0, "item(0, 2, 1)");
        new Run("item: -11 ahead of -12, for every sort").is(NOTHING, "item(0, 0, 0)", "item(0, 1, -1)", "item(0, 2, 99)", "item(0, 3, 0)");
        for (int sort = 0; sort < 4; sort++) {
            Run run = new Run("item: taken for a sort").so("sheet(0, " + sort + ", 1)", "put(0, 0, 5)");
            for (int as = 0; as < 4; as++) run.is(as == sort ? 5 : OTHER, "item(0, " + as + ", 0)");
        }
        new Run("(An item may be as low as these, too.)").so("sheet(0, 0, 4)", "put(0, 0, -1)", "put(0, 1, -11)", "put(0, 2, -12)", "put(0, 3, -13)").is(-1, "item(0, 0, 0)").is(-11, "item(0, 0, 1)").is(-12, "item(0, 0, 2)").is(-13, "item(0, 0, 3)");
    }

    private static void narrowed() {
        int[] told = {127, 128, 255, 256, -128, -129, 32767, 32768, 65535, 65536, -32768, -32769, MAX, MIN};
        for (int sort = 0; sort < 4; sort++) {
            Run run = new Run("put: narrowed to its sort " + sort).so("sheet(1, " + sort + ", 1)");
            for (int v : told) run.is(1, "put(1, 0, " + v + ")").is(sort == 0 ? (byte) v : sort == 1 ? (short) v : v, "item(1, " + sort + ", 0)");
        }
    }

    private static void comes() {
        String told = "CLAIMS come from a SHEET taken for longs, n (0 to 6) of them from item i on";
        new Run(told).so("sheet(0, 3, 8)", "put(0, 0, 1001)", "put(0, 1, 1001)", "put(0, 2, 1001)", "put(0, 3, 1001)", "put(0, 4, 1001)", "put(0, 5, 1001)", "put(0, 6, 1001)", "put(0, 7, 1001)")
            .is(BAD, "comes(0, 0, -1)", "comes(0, 0, 7)", "comes(0, 0, min)", "comes(0, 0, max)").is(0, "many(1)", "comes(0, 0, 0)", "comes(0, 8, 0)", "many(1)").is(1, "comes(0, 7, 1)", "many(1)").is(6, "comes(0, 2, 6)").is(7, "many(1)");
        new Run("comes: from item i on").so("sheet(0, 3, 3)", "put(0, 0, 1001)", "put(0, 1, 2002)", "put(0, 2, 4003)").is(2, "comes(0, 1, 2)").so("shelf(0, 0, 0)", "shelf(1, 0, 1)").is(2, "act(0, 0, 0)").is(3, "act(1, 0, 0)").so("must(4)").is(0, "needed(0)").is(1, "needed(1)");
        new Run("comes: -13; -11").so("sheet(0, 2, 3)", "sheet(1, 0, 3)", "sheet(2, 1, 3)").is(OTHER, "comes(0, 0, 0)", "comes(1, 0, 1)", "comes(2, 0, 1)", "comes(0, 99, 6)", "comes(0, -1, 0)").is(NOTHING, "comes(3, 0, 0)", "comes(3, 99, 6)", "comes(3, -1, 1)").is(BAD, "comes(0, 0, 7)", "comes(3, 0, -1)", "comes(4, 0, 7)");
        new Run("-12: what stood ahead came").so("sheet(0, 3, 3)", "put(0, 0, 1001)", "put(0, 1, 1001)", "put(0, 2, 1001)").is(OUTSIDE, "comes(0, 3, 1)", "comes(0, -1, 1)", "comes(0, -1, 6)", "comes(0, min, 6)", "comes(0, max, 6)").is(0, "many(1)").is(OUTSIDE, "comes(0, 2, 2)").is(1, "many(1)").is(OUTSIDE, "comes(0, 0, 4)").is(4, "many(1)").is(3, "comes(0, 0, 3)").is(7, "many(1)");
        new Run("-12: of a row of none").so("sheet(0, 3, 0)").is(OUTSIDE, "comes(0, 0, 1)").is(0, "comes(0, 0, 0)", "many(1)");
        new Run("FULL likewise").so("sheet(0, 3, 3)", "put(0, 0, 1001)", "put(0, 1, 1001)", "put(0, 2, 1001)").times(14, "claim(1, 1, 239, -1)").is(FULL, "comes(0, 0, 3)").is(16, "many(1)").is(FULL, "comes(0, 0, 1)", "comes(0, 2, 2)").is(OUTSIDE, "comes(0, 3, 1)").is(0, "comes(0, 0, 0)");
        new Run("FULL: not for such as aren't so").so("sheet(0, 3, 2)", "put(0, 0, 1000)", "put(0, 1, 1001)").times(16, "claim(1, 1, 239, -1)").is(0, "comes(0, 0, 1)").is(FULL, "comes(0, 0, 2)").is(16, "many(1)");
        new Run("FULL: sixteen came").so("sheet(0, 3, 6)", "put(0, 0, 1001)", "put(0, 1, 1001)", "put(0, 2, 1001)", "put(0, 3, 1001)", "put(0, 4, 1001)", "put(0, 5, 1001)").is(6, "comes(0, 0, 6)", "comes(0, 0, 6)").is(4, "comes(0, 0, 4)").is(16, "many(1)");
    }

    private static void comesNumbers() {
        String so = "each is who, 1000 times steps (such as aren't so are left out)";
        int[] out = {0, 1, 1000, 999, 801 + 1000, 41 + 1000, 10 + 1000, 4096 * 1000 + 1, 9999 * 1000 + 1, 10000000 + 1001, -1, -1001, MIN, MAX};
        Run left = new Run(so).so("sheet(0, 3, 1)");
        for (int v : out) left.so("put(0, 0, " + v + ")").is(0, "comes(0, 0, 1)", "many(1)");
        Run one = new Run(so).so("sheet(0, 3, 6)", "put(0, 0, 1001)", "put(0, 1, 4095739)", "put(0, 2, 0)", "put(0, 3, 2048001)", "put(0, 4, 4096001)", "put(0, 5, 1009)").is(4, "comes(0, 0, 6)", "many(1)");
        one.so("must(4095)", "shelf(0, 0, 1)", "shelf(1, 0, 3)").is(9, "act(0, 0, 0)", "act(1, 0, 0)").is(2, "holes(3000, 0, false)").is(13, "holes(0, 0, false)");
        new Run("comes: the last MONTH, and the first").so("sheet(0, 3, 1)", "put(0, 0, 1001)").is(1, "comes(0, 0, 1)").is(1, "alive(0, 0, 0)").is(0, "alive(0, 1, 0)");
        new Run("comes: without KIN").so("sheet(0, 3, 1)", "put(0, 0, 1001)", "comes(0, 0, 1)", "must(1)", "shelf(0, 0, 0)").is(0, "taken(0, 1)").is(OTHER, "taken(0, 3)");
    }

    private static Run things(String sentence) {
        return new Run(sentence).so("claim(7, 1, 239, 3)", "claim(5, 2, 239, -1)", "boxes(0, 20)", "boxes(0, 30)", "leave(0, 50, 0, 9, false)", "leave(0, 60, 0, 9, true)");
    }

    private static void shelves() {
        things("SHELVES 0 to 3").is(1, "shelf(0, 0, 0)", "shelf(3, 0, 0)").is(BAD, "shelf(-1, 0, 0)", "shelf(4, 0, 0)", "shelf(min, 4, 0)", "shelf(max, 4, 0)", "taken(-1, 0)", "taken(4, 0)", "taken(min, 0)", "taken(max, 0)").is(0, "taken(0, 0)", "taken(3, 0)");
        new Run("or nothing (at first)").is(NOTHING, "taken(0, 0)", "taken(1, 6)", "taken(2, 10)", "taken(3, 13)").is(0, "act(0, 0, 1)", "act(3, 3, 1)", "many(13)");
        things("shelf: BAD: no such SHELF, what, thing").is(BAD, "shelf(0, -1, 0)", "shelf(0, 5, 0)", "shelf(0, min, 0)", "shelf(0, max, 0)", "shelf(0, 0, 2)", "shelf(0, 0, -1)", "shelf(0, 1, 2)", "shelf(0, 1, -1)", "shelf(0, 2, 2)", "shelf(0, 2, -1)", "shelf(0, 3, 4)", "shelf(0, 3, -1)", "shelf(0, 0, max)", "shelf(0, 1, max)", "shelf(0, 2, min)", "shelf(0, 3, max)", "shelf(4, 5, 99)").is(NOTHING, "taken(0, 0)")
            .is(1, "shelf(0, 0, 1)").is(1, "taken(0, 0)").is(1, "shelf(0, 1, 1)").is(1, "taken(0, 4)").is(1, "shelf(0, 2, 1)").is(1, "taken(0, 5)").is(1, "shelf(0, 3, 3)");
        new Run("shelf: no thing at first").is(BAD, "shelf(0, 0, 0)", "shelf(0, 1, 0)", "shelf(0, 2, 0)").is(1, "shelf(0, 3, 0)", "shelf(0, 4, 0)");
        things("nothing (4)").is(1, "shelf(0, 0, 0)").is(0, "taken(0, 0)").is(1, "shelf(0, 4, 0)").is(NOTHING, "taken(0, 0)").is(1, "shelf(1, 4, -1)", "shelf(2, 4, 99)", "shelf(3, 4, min)").is(NOTHING, "taken(1, 0)", "taken(3, 0)");
        things("one that is not there any more is nothing").so("keep()", "claim(1, 1, 0, -1)", "boxes(0, 9)", "leave(0, 1, 0, 0, false)", "shelf(0, 0, 2)", "shelf(1, 1, 2)", "shelf(2, 2, 2)", "shelf(3, 0, 1)").is(2, "taken(0, 0)", "taken(1, 0)", "taken(2, 0)")
            .so("again()").is(NOTHING, "taken(0, 0)", "taken(1, 0)", "taken(2, 0)", "taken(0, 10)", "taken(2, 6)").is(1, "taken(3, 0)").is(0, "act(0, 0, 9)", "act(1, 0, 9)", "act(2, 0, 9)", "many(13)");
    }

    private static void shelvesOfRows() {
        new Run("the row of SHEET n (3; nothing, if missing)").is(1, "shelf(0, 3, 2)").is(NOTHING, "taken(0, 10)", "taken(0, 0)").so("sheet(2, 1, 40)", "shelf(0, 3, 2)").is(40, "taken(0, 11)").is(OTHER, "taken(0, 10)", "taken(0, 12)", "taken(0, 0)", "taken(0, 6)");
        missingRows();
        new Run("a row that is not there any more is nothing").so("sheet(2, 1, 7)", "shelf(0, 3, 2)").is(7, "taken(0, 11)").so("sheet(2, -1, 0)").is(NOTHING, "taken(0, 11)", "taken(0, 0)").is(0, "act(0, 0, 1)", "many(13)");
        new Run("a row of none").so("sheet(0, 3, 0)", "shelf(1, 3, 0)").is(0, "taken(1, 13)").is(OTHER, "taken(1, 12)");
        for (int sort = 0; sort < 4; sort++) {
            Run run = new Run("taken: for a row of sort as - 10: how many items").so("sheet(3, " + sort + ", 9)", "shelf(3, 3, 3)");
            for (int as = 0; as < 14; as++) run.is(as > 6 && as < 10 ? BAD : as == sort + 10 ? 9 : OTHER, "taken(3, " + as + ")");
        }
    }

    /** A SHELF that was given the row of a missing SHEET holds nothing, whatever that SHEET becomes. */
    private static void missingRows() {
        String told = "the row of SHEET n (3; nothing, if missing): sheet() puts nothing on a SHELF";
        for (int sheet = 0; sheet < 4; sheet++) {
            for (int sort = 0; sort < 4; sort++) {
                Run run = new Run(told).is(1, "shelf(3, 3, " + sheet + ")", "sheet(" + sheet + ", " + sort + ", " + 10 * sort + ")");
                for (int as = 0; as < 14; as++) run.is(as > 6 && as < 10 ? BAD : NOTHING, "taken(3, " + as + ")");
                for (int act = 0; act < 4; act++) run.is(0, "act(3, " + act + ", 5)", "many(13)");
            }
        }
        new Run(told + ", by put() neither").so("shelf(0, 3, 2)", "sheet(2, 2, 3)", "put(2, 0, 5)").is(NOTHING, "taken(0, 12)").so("sheet(2, 1, 7)").is(NOTHING, "taken(0, 11)", "taken(0, 12)").so("sheet(2, -1, 0)", "sheet(2, 3, 1)").is(NOTHING, "taken(0, 13)");
        new Run("nothing, if missing: the row, from the next shelf() on").so("shelf(0, 3, 2)", "sheet(2, 1, 7)").is(NOTHING, "taken(0, 11)").is(1, "shelf(1, 3, 2)").is(7, "taken(1, 11)").is(NOTHING, "taken(0, 11)").is(1, "shelf(0, 3, 2)").is(7, "taken(0, 11)", "taken(1, 11)");
        new Run("nothing, if missing: made missing ahead of shelf()").so("sheet(2, 1, 7)", "sheet(2, -1, 0)").is(1, "shelf(0, 3, 2)").is(NOTHING, "taken(0, 11)").so("sheet(2, 1, 7)").is(NOTHING, "taken(0, 11)");
        new Run("nothing, if missing: not of another SHEET").so("sheet(1, 0, 5)", "shelf(1, 3, 1)", "shelf(2, 3, 2)", "sheet(2, 0, 6)").is(5, "taken(1, 10)").is(NOTHING, "taken(2, 10)").is(1, "shelf(2, 3, 1)").is(5, "taken(2, 10)");
        new Run("nothing, if missing: a refused sheet() leaves it so").so("shelf(0, 3, 2)").is(BAD, "sheet(2, 0, 41)").is(BELOW, "sheet(2, 0, -1)").is(1, "shelf(0, 3, 2)").is(NOTHING, "taken(0, 10)").so("sheet(2, 0, 4)").is(NOTHING, "taken(0, 10)");
        for (String ahead : new String[] {"shelf(0, 0, 1)", "shelf(0, 1, 1)", "shelf(0, 2, 1)"}) {
            things("nothing, if missing: what stood on the SHELF is gone").so(ahead).is(1, "taken(0, 0)", "shelf(0, 3, 2)").is(NOTHING, "taken(0, 0)").is(0, "act(0, 0, 5)").so("sheet(2, 1, 7)").is(NOTHING, "taken(0, 0)", "taken(0, 11)").is(1, ahead, "taken(0, 0)");
        }
        new Run("nothing, if missing: a row that stood on the SHELF is gone").so("sheet(1, 0, 5)", "shelf(0, 3, 1)").is(5, "taken(0, 10)").is(1, "shelf(0, 3, 2)").is(NOTHING, "taken(0, 10)").so("sheet(2, 0, 6)").is(NOTHING, "taken(0, 10)");
        new Run("nothing, if missing: not SHEETS, SHELVES is kept").so("shelf(0, 3, 2)", "keep()", "sheet(2, 0, 6)", "again()").is(NOTHING, "taken(0, 10)").so("shelf(0, 3, 2)", "again()").is(6, "taken(0, 10)");
    }

    private static void taken() {
        things("taken: BAD: no such SHELF, as").so("shelf(0, 0, 0)").is(BAD, "taken(-1, 0)", "taken(4, 0)", "taken(0, -1)", "taken(0, 7)", "taken(0, 8)", "taken(0, 9)", "taken(0, 14)", "taken(0, min)", "taken(0, max)", "taken(1, 7)", "taken(4, 10)").is(0, "taken(0, 0)").is(OTHER, "taken(0, 6)", "taken(0, 10)", "taken(0, 13)");
        things("taken: -11").is(NOTHING, "taken(0, 0)", "taken(0, 6)", "taken(0, 10)", "taken(0, 13)");
    }

    private static void kind(Run run, int shelf, int number, int... kinds) {
        for (int as = 0; as < 7; as++) {
            boolean is = false;
            for (int k : kinds) is |= k == as;
            run.is(is ? number : OTHER, "taken(" + shelf + ", " + as + ")");
        }
    }

    private static void kinds() {
        kind(things("KINDS: 0 claim").so("shelf(2, 0, 1)"), 2, 1, 0);
        kind(things("2 sworn (under claim)").so("shelf(2, 0, 1)", "swear(1, 0)"), 2, 1, 0, 2);
        kind(things("sworn, and looked at").so("shelf(2, 0, 1)", "swear(1, 0)", "swear(1, 1)"), 2, 1, 0, 2);
        kind(things("1 needed (under claim)").so("shelf(2, 0, 1)", "must(2)"), 2, 1, 0, 1);
        kind(things("else needed if it is NEEDED, else sworn").so("shelf(2, 0, 1)", "must(2)", "swear(1, 0)"), 2, 1, 0, 1);
        kind(things("3 kin (under needed)").so("shelf(2, 0, 0)", "must(1)"), 2, 0, 0, 1, 3);
        kind(things("A CLAIM is kin if it is NEEDED and has a KIN").so("shelf(2, 0, 0)", "swear(0, 0)"), 2, 0, 0, 2);
        kind(things("has a KIN, but isn't NEEDED").so("shelf(2, 0, 0)", "must(2)"), 2, 0, 0);
        kind(new Run("has a KIN: 0").so("claim(1, 1, 239, 0)", "must(1)", "shelf(0, 0, 0)"), 0, 0, 0, 1, 3);
        kind(things("4 box").so("shelf(2, 1, 1)"), 2, 1, 0, 4);
        kind(things("5 leave").so("shelf(2, 2, 0)"), 2, 0, 0, 5);
        kind(things("6 favoured (under leave)").so("shelf(2, 2, 1)"), 2, 1, 0, 5, 6);
        Run later = things("a CLAIM's kind is what it is when it is taken").so("shelf(2, 0, 0)");
        kind(later, 2, 0, 0);
        kind(later.so("must(1)"), 2, 0, 0, 1, 3);
        kind(later.so("way(0, 2)"), 2, 0, 0);
    }

    private static void ran(Run run, int due, String act, int... bodies) {
        run.is(due, act).is(bodies.length, "many(13)");
        for (int i = 0; i < bodies.length; i++) run.is(bodies[i], "trace(" + i + ")");
        run.is(NONE, "trace(" + bodies.length + ")", "trace(-1)", "trace(30)", "trace(min)", "trace(max)");
    }

    private static void bodiesOfClaims() {
        Run claim = things("claim: 10 reads: x + a. 11 counts: reads(x) * 2. 12 pays: x by (a - n), the rest away. 13 ends: counts(x) ^ n.").so("shelf(0, 0, 0)", "shelf(1, 0, 1)").is(NONE, "trace(0)");
        ran(claim, 11, "act(0, 0, 4)", 10);
        ran(claim, 22, "act(0, 1, 4)", 11, 10);
        ran(claim, 3, "act(0, 2, 27)", 12);
        ran(claim, -3, "act(0, 2, -27)", 12);
        ran(claim, 5, "act(1, 2, 23)", 12);
        ran(claim, 18 ^ 1, "act(1, 3, 4)", 13, 11, 10);
        Run sworn = things("sworn: 30 reads: super.reads(x) - 1.").so("shelf(0, 0, 1)", "swear(1, 0)");
        ran(sworn, 8, "act(0, 0, 4)", 30, 10);
        ran(sworn, 16, "act(0, 1, 4)", 11, 30, 10);
        ran(sworn, 5, "act(0, 2, 20)", 12);
        ran(sworn, 16 ^ 1, "act(0, 3, 4)", 13, 11, 30, 10);
        Run needed = things("needed: 20 counts: super.counts(x) + 5. 21 ends: super.ends(x) * 3.").so("shelf(0, 0, 1)", "must(3)");
        ran(needed, 9, "act(0, 0, 4)", 10);
        ran(needed, 23, "act(0, 1, 4)", 20, 11, 10);
        ran(needed, 5, "act(0, 2, 20)", 12);
        ran(needed, (23 ^ 1) * 3, "act(0, 3, 4)", 21, 13, 20, 11, 10);
        Run kin = things("kin: 40 pays: super.pays(x + 4). 41 counts: super.counts(x) - reads(2).").so("shelf(0, 0, 0)", "must(3)");
        ran(kin, 11, "act(0, 0, 4)", 10);
        ran(kin, 27 - 9, "act(0, 1, 4)", 41, 20, 11, 10, 10);
        ran(kin, 3, "act(0, 2, 20)", 40, 12);
        ran(kin, 4, "act(0, 2, 24)", 40, 12);
        ran(kin, 18 * 3, "act(0, 3, 4)", 21, 13, 41, 20, 11, 10, 10);
    }

    private static void bodiesOfOthers() {
        Run box = things("box: 50 ends: super.ends(x) + pays(a + 1).").so("shelf(0, 1, 1)", "boxes(0, 4)", "shelf(1, 1, 2)");
        ran(box, 34, "act(0, 0, 4)", 10);
        ran(box, 68, "act(0, 1, 4)", 11, 10);
        ran(box, 2, "act(0, 2, 60)", 12);
        ran(box, (68 ^ 1) + 1, "act(0, 3, 4)", 50, 13, 11, 10, 12);
        ran(box, (16 ^ 2) + 2, "act(1, 3, 4)", 50, 13, 11, 10, 12);
        Run leave = things("leave: 60 reads: super.reads(x) ^ 9.").so("shelf(0, 2, 0)");
        ran(leave, 54 ^ 9, "act(0, 0, 4)", 60, 10);
        ran(leave, (54 ^ 9) * 2, "act(0, 1, 4)", 11, 60, 10);
        ran(leave, 2, "act(0, 2, 120)", 12);
        ran(leave, (54 ^ 9) * 2, "act(0, 3, 4)", 13, 11, 60, 10);
        Run favoured = things("favoured: 70 counts: 0 - super.counts(x). 71 pays: super.pays(x) + x.").so("shelf(0, 2, 1)");
        ran(favoured, 64 ^ 9, "act(0, 0, 4)", 60, 10);
        ran(favoured, -2 * (64 ^ 9), "act(0, 1, 4)", 70, 11, 60, 10);
        ran(favoured, 122, "act(0, 2, 120)", 71, 12);
        ran(favoured, -2 * (64 ^ 9) ^ 1, "act(0, 3, 4)", 13, 70, 11, 60, 10);
        Run acts = things("An ACT (0 to 3)").so("shelf(0, 0, 0)").is(0, "act(0, -1, 4)", "many(13)").is(11, "act(0, 0, 4)").is(0, "act(0, 4, 4)", "many(13)").is(22, "act(0, 3, 4)").is(0, "act(0, min, 4)", "act(0, max, 4)", "many(13)");
        ran(acts, 22, "act(0, 3, 4)", 13, 11, 10);
    }

    /** Sums are made here by Java's own ints, as the document tells them. */
    private static void wraps() {
        String wrap = "with a number x (ints that wrap)";
        things(wrap).so("shelf(0, 0, 0)").is(MAX + 7, "act(0, 0, max)").is(MIN + 7, "act(0, 0, min)").is((MAX + 7) * 2, "act(0, 1, max)").is((MIN + 7) * 2, "act(0, 1, min)").is(MAX / 7, "act(0, 2, max)").is(MIN / 7, "act(0, 2, min)").is(1073741900 * 2 + 14, "act(0, 1, 1073741900)");
        things(wrap).so("shelf(0, 0, 1)", "swear(1, 0)").is(MIN, "act(0, 0, 2147483644)").is(MAX, "act(0, 0, 2147483643)");
        things(wrap).so("shelf(0, 0, 1)", "must(3)").is((MAX + 5) * 2 + 5, "act(0, 1, max)").is(((1073741821 + 5) * 2 + 5 ^ 1) * 3, "act(0, 3, 1073741821)").is(((MAX + 5) * 2 + 5 ^ 1) * 3, "act(0, 3, max)");
        things(wrap).so("shelf(0, 0, 0)", "must(3)").is((MAX + 4) / 7, "act(0, 2, max)").is((MAX - 3 + 4) / 7, "act(0, 2, 2147483644)").is(MAX / 7, "act(0, 2, 2147483643)").is((MIN + 7) * 2 + 5 - 9, "act(0, 1, min)");
        new Run("x by (a - n): -1, where x is the lowest int").so("boxes(0, 1)", "boxes(0, 1)", "boxes(0, 1)", "shelf(0, 1, 2)").is(MIN, "act(0, 2, min)").is(-MAX, "act(0, 2, max)").is(7, "act(0, 2, -7)");
        new Run("pays by a - n below 0, the rest away").so("boxes(0, 1)", "boxes(0, 1)", "boxes(0, 1)", "boxes(0, 1)", "shelf(0, 1, 3)").is(-3, "act(0, 2, 7)").is(3, "act(0, 2, -7)").is(0, "act(0, 2, 1)").is((8 ^ 3) - 1, "act(0, 3, 3)");
        things(wrap).so("shelf(0, 2, 1)").is(MAX / 59 + MAX, "act(0, 2, max)").is(MIN / 59 + MIN, "act(0, 2, min)").is(0 - (MAX + 60 ^ 9) * 2, "act(0, 1, max)");
        new Run("favoured: 0 less the lowest int").so("leave(0, 0, 0, 0, true)", "shelf(0, 2, 0)").is(MIN, "act(0, 1, " + (1073741824 ^ 9) + ")").is(-2147483646, "act(0, 1, " + (1073741823 ^ 9) + ")");
    }

    private static void byZero() {
        Run run = new Run("(-15 if these are the same; that is all that act() answers then)").so("claim(1, 2, 239, -1)", "claim(1, 2, 239, -1)", "claim(1, 2, 239, -1)", "claim(3, 1, 239, 4)", "shelf(0, 0, 1)", "shelf(1, 0, 0)", "shelf(2, 0, 2)");
        run.is(BY_ZERO, "act(0, 2, 9)", "act(0, 2, 0)").is(9, "act(1, 2, 9)").is(-9, "act(2, 2, 9)").is((22 ^ 2), "act(2, 3, 10)").is(22 ^ 1, "act(0, 3, 10)").so("shelf(3, 0, 3)").is(BY_ZERO, "act(3, 2, 9)").so("must(1)").is(BY_ZERO, "act(3, 2, 9)").is(2 * 7 + 5 - 5, "act(3, 1, 4)");
        Run box = new Run("-15 of BOXES' ends, too").so("boxes(0, 1)", "boxes(0, 1)", "boxes(0, 1)", "shelf(0, 1, 1)", "shelf(1, 1, 0)", "shelf(2, 1, 2)");
        ran(box, BY_ZERO, "act(0, 3, 4)", 50, 13, 11, 10, 12);
        ran(box, BY_ZERO, "act(0, 2, 4)", 12);
        ran(box, 10 + 2, "act(1, 3, 4)", 50, 13, 11, 10, 12);
        ran(box, (10 ^ 2) - 2, "act(2, 3, 4)", 50, 13, 11, 10, 12);
        Run favoured = new Run("-15 of a favoured LEAVE").so("leave(0, 0, 0, 0, true)", "leave(0, 0, 0, 0, true)", "shelf(0, 2, 0)", "shelf(1, 2, 1)");
        ran(favoured, BY_ZERO, "act(0, 2, 4)", 71, 12);
        ran(favoured, 0, "act(1, 2, 4)", 71, 12);
    }

    private static void noTrace() {
        String none = "0, and no TRACE then: no such SHELF, act, nothing, a row";
        for (String call : new String[] {"act(-1, 0, 5)", "act(4, 0, 5)", "act(min, 0, 5)", "act(max, 0, 5)", "act(0, -1, 5)", "act(0, 4, 5)", "act(2, 0, 5)", "act(1, 0, 5)", "act(1, 3, 5)", "act(3, 2, 5)"}) {
            things(none).so("sheet(1, 2, 9)", "shelf(0, 0, 0)", "shelf(1, 3, 1)", "shelf(3, 3, 0)", "act(0, 1, 5)").is(2, "many(13)").is(0, call, "many(13)").is(NONE, "trace(0)");
        }
        for (int sort = 0; sort < 4; sort++) {
            things("no TRACE of a row of sort " + sort).so("sheet(1, " + sort + ", 9)", "put(1, 0, 3)", "shelf(0, 0, 0)", "shelf(1, 3, 1)", "act(0, 1, 5)").is(0, "act(1, 0, 5)", "many(13)").so("act(0, 1, 5)").is(0, "act(1, 3, 5)", "many(13)").is(NONE, "trace(0)");
        }
        things("THE TRACE: in the latest act()").so("shelf(0, 0, 0)", "shelf(1, 0, 1)", "act(0, 3, 5)").is(3, "many(13)").so("act(0, 0, 5)").is(1, "many(13)").is(10, "trace(0)").is(NONE, "trace(1)");
        new Run("trace: NONE").is(NONE, "trace(0)", "trace(-1)", "trace(29)", "trace(30)", "trace(min)", "trace(max)");
    }

    private static void many() {
        Run run = new Run("many: BAD: another what").is(BAD, "many(-1)", "many(15)", "many(min)", "many(max)").is(0, "many(0)", "many(14)");
        run.so("months(1)").is(1, "many(0)").times(2, "claim(1, 1, 239, -1)").is(2, "many(1)").times(3, "word(0, false)").is(3, "many(2)").times(4, "must(1)").is(4, "many(3)").so("way(0, 1)", "way(3, 1)", "way(3, 1)").is(6, "many(4)")
            .times(5, "read()").is(5, "many(5)").times(7, "boxes(0, 1)").is(7, "many(6)").times(8, "leave(0, 0, 0, 0, false)").is(8, "many(7)").times(9, "paid(0, 0, 0)").is(9, "many(8)").times(10, "drawn(0, 0, 0)").is(10, "many(9)").is(0, "many(10)").so("join(0, true)", "prove(1)").is(1, "many(10)")
            .times(6, "like(1, 1)").is(6, "many(11)").times(3, "feed(0, 4)").is(12, "many(12)").so("shelf(0, 0, 0)", "act(0, 3, 0)").is(5, "many(13)").is(2, "many(14)").so("claim(1, 2, 239, -1)").is(2, "many(14)").is(3, "many(1)").is(4, "many(3)").is(3, "many(2)").is(1, "many(0)");
    }
}
