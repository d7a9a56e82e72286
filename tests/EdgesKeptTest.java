/** Promises 48 and 49: each sentence that names a boundary has a run of its own; and what stands at the document's beginning and end. */
public final class EdgesKeptTest {
    private static final int BAD = -1, FULL = -2, NONE = -3, STATE = -4;

    public static void main(String[] args) {
        nothingKept();
        kept();
        notKept();
        places();
        constants();
        fiveHundredAndTwelve();
        Run.end("EdgesKept");
    }

    private static void nothingKept() {
        new Run("again: NONE: nothing is kept").is(NONE, "again()").so("months(3)", "claim(1, 1, 239, -1)").is(NONE, "again()").is(3, "many(0)").is(1, "many(1)").is(1, "keep()", "again()", "again()");
        new Run("It becomes what was kept latest (which stays)").is(1, "keep()").so("months(1)").is(1, "keep()").so("months(1)").is(1, "again()", "many(0)").so("months(5)").is(1, "again()", "many(0)").is(1, "keep()", "again()", "many(0)");
        new Run("what is kept stays as it was kept").so("must(1)", "claim(1, 1, 239, -1)", "keep()", "way(0, 2)", "word(0, true)", "again()", "way(0, 4)", "again()").is(1, "needed(0)", "alive(0, 0, 0)", "many(4)");
        new Run("keep() of a new object").so("keep()", "months(1)", "claim(1, 1, 239, -1)", "must(1)", "join(0, true)", "boxes(0, 1)", "again()").is(0, "many(0)", "many(1)", "many(3)", "many(6)", "members(239)", "many(14)").is(1, "many(4)");
    }

    private static Run back(String kept) {
        return new Run("All but THE TAPE, ROWS, SHEETS, SHELVES, THE TRACE is kept: " + kept);
    }

    private static void kept() {
        back("MONTH").so("months(7)", "keep()", "months(1)", "again()").is(7, "many(0)").is(8, "months(1)");
        back("CLAIMS").so("claim(105, 1, 5009, 2)", "keep()", "claim(1, 1, 239, -1)", "again()").is(1, "many(1)").is(BAD, "needed(1)").is(0, "alive(0, 4, 0)", "alive(0, 10, 0)").is(1, "alive(0, 5, 0)", "alive(0, 9, 0)").is(1, "claim(219, 4, 3, -1)").is(0, "alive(1, 4, 0)").is(1, "alive(1, 3, 0)");
        back("sworn and looked at").so("claim(1, 1, 239, -1)", "claim(1, 1, 239, -1)", "swear(0, 0)", "keep()", "swear(0, 1)", "swear(1, 0)", "claim(1, 1, 239, -1)", "swear(2, 0)", "swear(2, 1)", "again()").is(1, "among(true)").is(0, "among(false)", "swear(0, 0)").is(1, "swear(0, 1)").is(STATE, "swear(1, 1)").is(2, "claim(1, 1, 239, -1)").is(STATE, "swear(2, 1)").is(1, "swear(2, 0)", "swear(2, 1)");
        back("WORDS").so("claim(1, 1, 239, -1)", "months(1)", "word(0, true)", "keep()", "months(1)", "word(0, false)", "again()").is(1, "many(2)").is(0, "alive(0, 0, 1)", "alive(0, 0, 9)").is(1, "alive(0, 0, 0)").is(1, "word(0, true)").is(0, "alive(0, 0, 9)");
        back("OWNERS").so("join(0, true)", "months(1)", "join(1, true)", "keep()", "join(0, false)", "join(2, true)", "again()").is(1, "members(0)").is(3, "members(1)", "members(239)").is(1, "join(0, true)").is(0, "join(2, false)");
        back("MUSTS and WAYS").so("claim(1, 1, 239, -1)", "must(3)", "way(0, 5)", "keep()", "must(2)", "way(0, 8)", "way(0, 2)", "way(1, 1)", "again()").is(1, "many(3)", "needed(0)").is(2, "many(4)").is(2, "way(0, 1)").is(1, "must(7)", "way(1, 7)");
        back("VERSIONS").read(0, "most 5;").so("keep()").read(1, "most 6;rate 1;").so("again()").is(1, "many(5)", "version(0, 0)").is(5, "version(0, 30)").is(BAD, "version(1, 0)").read(1, "interest 7;").is(4, "version(1, 10)").is(7, "version(1, 30)");
        back("THE TERMS").so("must(1)", "claim(9, 1, 239, -1)", "claim(101, 1, 239, -1)", "claim(11, 1, 239, -1)", "join(0, true)", "join(1, true)", "boxes(0, 9)", "boxes(1000, 100)", "boxes(10000, 7)").read(0, "rate 7 over 5 rate 3;land 0 pays 50;most 40;interest 10;free if maker = 1;share by worth;").so("keep()")
            .read(1, "rate 1;land 0 pays 100;most 900;interest 0;share by heads;").so("again()").is(40, "owe(0, 0, 0)").is(0, "owe(1, 0, 0)").is(44, "back(0, 1)").is(37, "share(0, 0, 0)").is(3, "share(1, 0, 0)");
        back("BOXES").so("boxes(0, 5)", "keep()", "boxes(0, 7)", "boxes(1000, 7)", "again()").is(5, "count(0, 0)").is(0, "count(1000, 0)").is(1, "many(6)", "boxes(1000, 9)").is(9, "count(1000, 0)");
        back("LEAVES").so("leave(0, 40, 0, 9, false)", "leave(1, 0, 0, 9, true)", "keep()", "leave(0, 30, 0, 9, false)", "leave(1, 20, 0, 9, false)", "again()").is(40, "part(0, 0)", "part(1, 0)").is(2, "many(7)", "leave(1, 60, 0, 9, false)").is(60, "part(1, 0)");
        back("PAID").so("must(1)", "claim(1, 1, 239, -1)", "join(0, true)", "boxes(0, 90)").read(0, "rate 1;").so("paid(0, 0, 10)", "keep()", "paid(0, 0, 20)", "again()").is(80, "back(0, 1)").is(1, "many(8)").is(2, "paid(0, 0, 5)").is(75, "back(0, 1)");
        back("DRAWN").so("drawn(0, 5, 5)", "keep()", "drawn(0, 9, 9)", "drawn(1000, 9, 9)", "again()").is(5, "under(0, 0)").is(1, "many(9)", "drawn(0, 7, 7)").is(7, "under(0, 0)");
        back("what OWNERS ask for").so("ask(0, 5)", "keep()", "ask(0, 6)", "ask(7, 9)", "again()").is(5, "ask(0, 0)").is(0, "ask(7, 0)");
        back("MACHINES").so("machine(0, 3)", "keep()", "machine(0, 2)", "machine(5, 1)", "again()").is(3, "machine(0, 0)").is(0, "machine(5, 0)");
        back("CROSSED").so("crossed(0, 0, true)", "keep()", "crossed(0, 0, false)", "crossed(7, 5, true)", "again()").is(1, "crossed(0, 0, true)").is(0, "crossed(7, 5, true)");
        back("LIKES").so("must(1)", "claim(1, 1, 239, -1)", "like(10, 1)", "keep()", "like(20, 1)", "again()").is(10, "fair(0, 0, 0)").is(1, "many(11)").is(2, "like(4, 1)").is(7, "fair(0, 0, 0)");
    }

    private static void notKept() {
        back("not THE TAPE").so("feed(0, 3)", "keep()", "feed(0, 4)").is(1, "again()").is(7, "many(12)").is(-100, "read()").is(1, "again()").is(0, "many(12)");
        back("not ROWS").so("must(1)", "claim(1, 1, 239, -1)", "claim(101, 1, 239, -1)", "join(0, true)", "join(1, true)", "boxes(0, 9)").read(0, "rate 1;").is(2, "prove(0)").so("keep()", "alterRow(0, 1, 77)").is(1, "again()").is(77, "row(0, 1)").is(1, "row(1, 0)").is(2, "many(10)");
        back("not SHEETS").so("sheet(0, 2, 3)", "put(0, 0, 5)", "keep()", "put(0, 0, 6)", "sheet(1, 1, 1)").is(1, "again()").is(6, "item(0, 2, 0)").is(0, "item(1, 1, 0)").so("sheet(0, -1, 0)").is(1, "again()").is(-11, "item(0, 2, 0)");
        back("not SHELVES").so("claim(1, 1, 239, -1)", "claim(1, 1, 239, -1)", "shelf(0, 0, 0)", "keep()", "shelf(0, 0, 1)", "shelf(1, 0, 1)").is(1, "again()").is(1, "taken(0, 0)", "taken(1, 0)").so("shelf(0, 4, 0)").is(1, "again()").is(-11, "taken(0, 0)");
        back("not THE TRACE").so("claim(1, 1, 239, -1)", "shelf(0, 0, 0)", "act(0, 0, 1)", "keep()", "act(0, 3, 1)").is(1, "again()").is(3, "many(13)").is(13, "trace(0)").is(10, "trace(2)").is(NONE, "trace(3)");
    }

    /** Behind again() there is as much place as there was. */
    private static void places() {
        back("places that were free").times(15, "claim(1, 1, 239, -1)").times(19, "word(0, false)").times(23, "join(0, true)").times(23, "boxes(0, 1)").so("keep()", "claim(1, 1, 239, -1)", "word(0, true)", "join(1, true)", "boxes(0, 1)").is(FULL, "claim(1, 1, 239, -1)", "word(0, true)", "join(1, true)", "boxes(0, 1)")
            .so("again()").is(15, "claim(1, 1, 239, -1)").is(FULL, "claim(1, 1, 239, -1)").is(1, "alive(0, 0, 0)").is(19, "word(0, true)").is(FULL, "word(0, true)").is(1, "members(0)").is(0, "join(1, true)").is(FULL, "join(1, true)").is(23, "boxes(0, 1)").is(FULL, "boxes(0, 1)");
        back("places that were taken").times(5, "must(1)").times(2, "way(0, 1)").times(5, "read()").times(7, "leave(0, 1, 0, 0, false)").times(15, "paid(0, 0, 0)").times(11, "drawn(0, 0, 0)").times(7, "like(1, 1)").so("keep()", "must(1)", "way(0, 1)", "read()", "leave(0, 1, 0, 0, false)", "paid(0, 0, 0)", "drawn(0, 0, 0)", "like(1, 1)")
            .so("again()").is(5, "must(1)").is(FULL, "must(1)").is(3, "way(0, 1)").is(FULL, "way(0, 1)").is(5, "read()").is(FULL, "read()").is(7, "leave(0, 1, 0, 0, false)").is(FULL, "leave(0, 1, 0, 0, false)").is(16, "paid(0, 0, 0)").is(FULL, "paid(0, 0, 0)").is(11, "drawn(0, 0, 0)").is(FULL, "drawn(0, 0, 0)").is(8, "like(1, 1)").is(FULL, "like(1, 1)");
        back("NOW goes back, and what was known later is forgotten").so("must(1)", "claim(1, 1, 239, -1)", "join(0, true)", "months(2)", "keep()", "months(3)", "word(0, true)", "boxes(0, 5)", "join(0, false)").read(0, "rate 1;").so("again()").is(1, "alive(0, 0, 239)", "members(239)").is(0, "count(0, 239)", "many(5)").is(BAD, "boxes(3, 1)").is(0, "boxes(2, 1)").is(1, "count(2, 2)");
    }

    private static void constants() {
        Run run = new Run("BAD = -1, FULL = -2, NONE = -3, STATE = -4");
        if (BoxLeaves.BAD != -1 || BoxLeaves.FULL != -2 || BoxLeaves.NONE != -3 || BoxLeaves.STATE != -4) run.fail("a constant is another");
    }

    private static void fiveHundredAndTwelve() {
        new Run("An object is used for at most 512 calls").so("claim(1, 1, 239, -1)").times(509, "alive(0, 0, 0)").is(1, "alive(0, 239, 0)").is(0, "many(0)");
    }
}
