/** Passage 1 and promises 1 to 7: each sentence that names a boundary has a run of its own, both sides of it. */
public final class EdgesClaimsTest {
    private static final int BAD = -1, FULL = -2, NONE = -3, STATE = -4;

    public static void main(String[] args) {
        numbersOfThings();
        claims();
        words();
        owners();
        newObject();
        promiseMonths();
        promiseClaim();
        promiseWordAndAlive();
        promiseJoinAndMembers();
        Run.end("EdgesClaims");
    }

    private static void numbersOfThings() {
        new Run("MONTHS are 0 to 239")
            .so("claim(1, 1, 239, -1)")
            .is(1, "alive(0, 0, 0)", "alive(0, 239, 0)", "alive(0, 0, 239)", "alive(0, 239, 239)")
            .is(BAD, "alive(0, -1, 0)", "alive(0, 240, 0)", "alive(0, 0, -1)", "alive(0, 0, 240)", "alive(0, min, 0)", "alive(0, max, 0)")
            .is(0, "members(0)", "members(239)")
            .is(BAD, "members(-1)", "members(240)")
            .is(1, "claim(1, 1, 239239, -1)")
            .is(BAD, "claim(1, 1, 240, -1)", "claim(1, 1, 240240, -1)", "claim(1, 1, 239240, -1)");
        new Run("NOW is one (0 at first)")
            .is(0, "many(0)").is(1, "months(1)", "many(0)");
        new Run("LANDS 0 to 3")
            .is(0, "claim(31, 1, 239, -1)").is(BAD, "claim(41, 1, 239, -1)", "claim(91, 1, 239, -1)")
            .is(0, "count(3000, 0)", "boxes(3000, 1)").is(BAD, "count(4000, 0)", "boxes(4000, 1)", "count(9000, 0)", "boxes(9000, 1)", "holes(4000, 0, true)")
            .so("must(1)").is(1, "holes(3000, 0, false)").is(0, "holes(2000, 0, false)", "holes(0, 0, false)");
        new Run("OWNERS 0 to 7")
            .is(0, "claim(1, 1, 239, -1)").is(1, "claim(701, 1, 239, -1)").is(BAD, "claim(801, 1, 239, -1)", "claim(-99, 1, 239, -1)")
            .is(0, "join(0, true)", "join(7, true)", "ask(0, 1)", "ask(7, 1)", "share(0, 0, 0)", "share(7, 0, 0)", "crossed(0, 0, true)", "crossed(7, 0, true)")
            .is(129, "members(0)")
            .is(BAD, "join(-1, true)", "join(8, true)", "ask(-1, 1)", "ask(8, 1)", "share(-1, 0, 0)", "share(8, 0, 0)", "crossed(-1, 0, true)", "crossed(8, 0, true)", "fair(-1, 0, 0)", "fair(8, 0, 0)");
        new Run("OWNERS 0 to 7 (all out of the pool at first)")
            .is(0, "members(0)", "members(239)", "join(0, false)", "join(1, false)", "join(2, false)", "join(3, false)", "join(4, false)", "join(5, false)", "join(6, false)", "join(7, false)")
            .is(0, "members(0)", "members(239)");
        new Run("MAKERS 0 to 5")
            .is(100, "part(0, 0)", "part(5, 0)").is(BAD, "part(-1, 0)", "part(6, 0)", "owe(-1, 0, 0)", "owe(6, 0, 0)", "back(-1, 0)", "back(6, 0)", "under(-1, 0)", "under(6, 0)")
            .is(0, "owe(5, 0, 0)", "back(5, 0)", "under(5, 0)", "machine(5, 0)", "crossed(0, 5, false)", "leave(5, 0, 0, 0, false)", "count(50000, 0)").is(1, "paid(5, 0, 0)")
            .is(BAD, "machine(-1, 0)", "machine(6, 0)", "crossed(0, -1, false)", "crossed(0, 6, false)", "leave(-1, 0, 0, 0, false)", "leave(6, 0, 0, 0, false)", "paid(-1, 0, 0)", "paid(6, 0, 0)", "count(60000, 0)");
        new Run("STEPS 0 to 11")
            .is(0, "claim(1, 2048, 239, -1)", "must(2048)").is(1, "way(0, 2048)", "needed(0)")
            .is(1, "claim(1, 4095, 239, -1)", "must(4095)").is(1, "needed(1)")
            .is(BAD, "claim(1, 4096, 239, -1)", "must(4096)", "way(0, 4096)", "claim(1, 4097, 239, -1)", "must(4097)", "way(0, 4097)");
    }

    private static void claims() {
        new Run("CLAIMS, 16 at most, numbered as they come")
            .numbers(0, 15, "claim(1, 1, 239, -1)").is(FULL, "claim(1, 1, 239, -1)").is(16, "many(1)").is(1, "alive(15, 0, 0)").is(BAD, "alive(16, 0, 0)");
        new Run("STEPS (bits, one at least)")
            .is(BAD, "claim(1, 0, 239, -1)", "claim(1, -1, 239, -1)", "claim(1, min, 239, -1)", "claim(1, max, 239, -1)").is(0, "claim(1, 1, 239, -1)");
        new Run("from a MONTH to another one (both with it, not ahead of it)")
            .is(BAD, "claim(1, 1, 5004, -1)", "claim(1, 1, 239238, -1)", "claim(1, 1, 1000, -1)")
            .is(0, "claim(1, 1, 5005, -1)").is(1, "claim(1, 1, 5006, -1)").is(2, "claim(1, 1, 239239, -1)").is(3, "claim(1, 1, 0, -1)")
            .is(0, "alive(0, 4, 0)", "alive(0, 6, 0)", "alive(1, 4, 0)", "alive(1, 7, 0)", "alive(2, 238, 0)", "alive(3, 1, 0)")
            .is(1, "alive(0, 5, 0)", "alive(1, 5, 0)", "alive(1, 6, 0)", "alive(2, 239, 0)", "alive(3, 0, 0)");
        new Run("a WORTH (1 to 9)")
            .is(BAD, "claim(0, 1, 239, -1)", "claim(10, 1, 239, -1)", "claim(730, 1, 239, -1)").is(0, "claim(1, 1, 239, -1)").is(1, "claim(9, 1, 239, -1)")
            .so("shelf(0, 0, 0)", "shelf(1, 0, 1)").is(1, "act(0, 0, 0)").is(9, "act(1, 0, 0)");
        new Run("a KIN (0 to 7, or none)")
            .is(BAD, "claim(1, 1, 239, -2)", "claim(1, 1, 239, 8)", "claim(1, 1, 239, min)", "claim(1, 1, 239, max)")
            .is(0, "claim(1, 1, 239, -1)").is(1, "claim(1, 1, 239, 0)").is(2, "claim(1, 1, 239, 7)")
            .so("must(1)", "shelf(0, 0, 0)", "shelf(1, 0, 1)", "shelf(2, 0, 2)").is(-13, "taken(0, 3)").is(1, "taken(1, 3)").is(2, "taken(2, 3)");
    }

    private static void words() {
        new Run("WORDS of courts, 20 at most, numbered as they come")
            .so("claim(1, 1, 239, -1)").numbers(0, 19, "word(0, false)").is(FULL, "word(0, true)").is(20, "many(2)").is(1, "alive(0, 0, 0)");
        new Run("WORDS: the twentieth counts")
            .so("claim(1, 1, 239, -1)").times(19, "word(0, false)").is(1, "alive(0, 0, 0)").is(19, "word(0, true)").is(0, "alive(0, 0, 0)");
        new Run("KNOWN from NOW on")
            .so("claim(1, 1, 239, -1)", "months(6)").is(0, "word(0, true)").is(1, "alive(0, 6, 5)", "alive(0, 6, 0)", "alive(0, 239, 5)").is(0, "alive(0, 6, 6)", "alive(0, 0, 6)", "alive(0, 239, 239)");
        new Run("ALIVE in a MONTH that is in its own")
            .so("claim(1, 1, 10020, -1)").is(0, "alive(0, 9, 0)", "alive(0, 21, 0)", "alive(0, 0, 0)", "alive(0, 239, 0)").is(1, "alive(0, 10, 0)", "alive(0, 20, 0)")
            .so("word(0, false)").is(0, "alive(0, 9, 0)", "alive(0, 21, 0)").is(1, "alive(0, 10, 0)", "alive(0, 20, 0)");
        new Run("the latest WORD of it that was KNOWN by k")
            .so("claim(1, 1, 239, -1)", "months(3)", "word(0, true)", "months(1)", "word(0, false)", "months(1)", "word(0, true)")
            .is(1, "alive(0, 0, 2)").is(0, "alive(0, 0, 3)").is(1, "alive(0, 0, 4)").is(0, "alive(0, 0, 5)", "alive(0, 0, 239)");
        new Run("the latest WORD, of several of one MONTH")
            .so("claim(1, 1, 239, -1)", "word(0, true)", "word(0, false)").is(1, "alive(0, 0, 0)").so("word(0, true)").is(0, "alive(0, 0, 0)");
        new Run("the latest WORD of it (if there is any)")
            .so("claim(1, 1, 239, -1)", "claim(1, 1, 239, -1)").is(1, "alive(0, 0, 0)", "alive(1, 0, 0)").so("word(1, true)").is(1, "alive(0, 0, 0)").is(0, "alive(1, 0, 0)");
    }

    private static void owners() {
        new Run("An OWNER is IN the pool, or not, from NOW on")
            .so("months(7)").is(0, "join(3, true)").is(0, "members(6)", "members(0)").is(8, "members(7)", "members(239)");
        new Run("IN in a MONTH by the latest such word of that MONTH or ahead")
            .so("months(1)", "join(3, true)", "months(1)", "join(3, false)", "months(1)", "join(3, true)")
            .is(0, "members(0)").is(8, "members(1)").is(0, "members(2)").is(8, "members(3)", "members(239)");
        new Run("the latest such word, of several of one MONTH")
            .is(0, "join(3, true)").is(1, "join(3, false)").is(0, "members(0)").is(0, "join(3, true)").is(8, "members(0)");
        new Run("the latest such word of that OWNER")
            .so("join(3, true)", "join(4, false)", "join(5, true)").is(40, "members(0)");
    }

    private static void newObject() {
        Run run = new Run("A new object: MONTH 0; nothing");
        for (int what = 0; what <= 14; what++) run.is(what == 4 ? 1 : 0, "many(" + what + ")");
        run.is(0, "members(0)", "among(false)", "among(true)", "sum(0, 0)", "prove(0)", "judge(0)").is(NONE, "again()", "trace(0)").is(-9, "row(0, 0)")
            .is(-11, "put(0, 0, 0)", "put(3, 0, 0)", "taken(0, 0)", "taken(3, 0)").is(BAD, "needed(0)", "version(0, 0)", "way(0, 1)", "word(0, true)");
    }

    private static void promiseMonths() {
        new Run("months: n MONTHS (1 to 60)")
            .is(BAD, "months(0)", "months(-1)", "months(61)", "months(min)", "months(max)").is(1, "months(1)").is(61, "months(60)").is(BAD, "months(61)").is(61, "many(0)");
        new Run("STATE: it would be above 239")
            .so("months(60)", "months(60)", "months(60)").is(STATE, "months(60)").is(180, "many(0)").is(239, "months(59)").is(STATE, "months(1)", "months(60)").is(239, "many(0)");
        new Run("STATE: it would be above 239, from 238")
            .so("months(60)", "months(60)", "months(60)", "months(58)").is(STATE, "months(2)").is(239, "months(1)");
        new Run("months: BAD ahead of STATE")
            .so("months(60)", "months(60)", "months(60)", "months(59)").is(BAD, "months(0)", "months(61)", "months(-1)", "months(max)");
    }

    private static void promiseClaim() {
        new Run("who: 100 times the OWNER, 10 times the LAND, and WORTH (as decimal digits)")
            .is(0, "claim(739, 1, 239, -1)").so("must(1)", "shelf(0, 0, 0)").is(9, "act(0, 0, 0)")
            .is(1, "holes(3000, 0, false)").is(0, "holes(2000, 0, false)").so("join(6, true)").is(1, "holes(3000, 0, false)").so("join(7, true)").is(0, "holes(3000, 0, false)")
            .is(BAD, "claim(800, 1, 239, -1)", "claim(801, 1, 239, -1)", "claim(740, 1, 239, -1)", "claim(741, 1, 239, -1)", "claim(-1, 1, 239, -1)", "claim(-111, 1, 239, -1)", "claim(min, 1, 239, -1)", "claim(max, 1, 239, -1)");
        new Run("span: 1000 times the first MONTH, and the last")
            .is(0, "claim(1, 1, 12034, -1)").is(0, "alive(0, 11, 0)", "alive(0, 35, 0)").is(1, "alive(0, 12, 0)", "alive(0, 34, 0)")
            .is(BAD, "claim(1, 1, -1, -1)", "claim(1, 1, -1000, -1)", "claim(1, 1, 999, -1)", "claim(1, 1, 240239, -1)", "claim(1, 1, 239999, -1)", "claim(1, 1, 1000000, -1)", "claim(1, 1, min, -1)", "claim(1, 1, max, -1)");
        new Run("claim: kin: -1 none")
            .so("must(1)", "join(0, true)", "join(1, true)").read(0, "rate 1;share by kin;")
            .so("claim(1, 1, 239, -1)", "claim(1, 1, 239, -1)", "claim(101, 1, 239, 0)", "claim(101, 1, 239, 0)", "boxes(0, 30)").is(20, "share(0, 0, 0)").is(10, "share(1, 0, 0)");
        new Run("claim: BAD; FULL")
            .times(16, "claim(1, 1, 239, -1)").is(FULL, "claim(1, 1, 239, -1)").is(BAD, "claim(0, 1, 239, -1)", "claim(1, 0, 239, -1)", "claim(1, 1, 240, -1)", "claim(1, 1, 239, 8)");
    }

    private static void promiseWordAndAlive() {
        new Run("word: BAD; FULL")
            .is(BAD, "word(0, true)").so("claim(1, 1, 239, -1)").is(BAD, "word(-1, true)", "word(1, true)", "word(min, true)", "word(max, true)")
            .times(20, "word(0, true)").is(FULL, "word(0, true)").is(BAD, "word(1, true)", "word(-1, true)");
        new Run("alive: BAD")
            .is(BAD, "alive(0, 0, 0)").so("claim(1, 1, 239, -1)").is(1, "alive(0, 0, 0)").is(BAD, "alive(-1, 0, 0)", "alive(1, 0, 0)", "alive(min, 0, 0)", "alive(max, 0, 0)", "alive(0, 0, max)", "alive(0, 0, min)");
        new Run("alive: as KNOWN at a k that is behind NOW")
            .so("claim(1, 1, 239, -1)", "months(60)", "word(0, true)").is(1, "alive(0, 0, 59)").is(0, "alive(0, 0, 60)", "alive(0, 0, 61)", "alive(0, 0, 239)");
    }

    private static void promiseJoinAndMembers() {
        new Run("join: 1 if it was, else 0")
            .is(0, "join(2, true)").is(1, "join(2, true)").is(1, "join(2, false)").is(0, "join(2, false)").is(0, "join(2, true)").so("months(1)").is(1, "join(2, false)");
        new Run("FULL: such words were told 24 times")
            .so("join(7, true)").times(22, "join(0, true)").is(0, "join(1, true)").is(FULL, "join(1, false)", "join(2, true)").is(131, "members(0)");
        new Run("join: BAD ahead of FULL")
            .times(24, "join(0, true)").is(BAD, "join(8, true)", "join(-1, true)", "join(min, true)", "join(max, true)").is(FULL, "join(7, true)");
        new Run("members: OWNERS that are IN in a MONTH, as bits")
            .so("join(0, true)").is(1, "members(0)").so("join(7, true)").is(129, "members(0)", "members(239)").is(BAD, "members(-1)", "members(240)", "members(min)", "members(max)");
    }
}
