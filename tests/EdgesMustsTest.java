/** Passage 2 and promises 8 to 13: each sentence that names a boundary has a run of its own, both sides of it. */
public final class EdgesMustsTest {
    private static final int BAD = -1, FULL = -2, NONE = -3, STATE = -4;

    public static void main(String[] args) {
        mustsAndWays();
        needed();
        round();
        looks();
        Run.end("EdgesMusts");
    }

    private static void mustsAndWays() {
        new Run("MUSTS, 6 at most, numbered as they come")
            .numbers(0, 5, "must(1)").is(FULL, "must(1)").is(6, "many(3)").is(1, "way(5, 1)").is(BAD, "way(6, 1)");
        new Run("each has WAYS, 1 to 4, as they come")
            .is(0, "must(1)").is(1, "many(4)").numbers(1, 3, "way(0, 1)").is(FULL, "way(0, 1)").is(4, "many(4)");
        new Run("each has WAYS of its own")
            .so("must(1)", "must(1)").numbers(1, 3, "way(1, 1)").is(FULL, "way(1, 1)").is(1, "way(0, 1)").is(8, "many(4)");
        new Run("must: BAD: no STEPS as told (its first WAY); FULL")
            .is(BAD, "must(0)", "must(-1)", "must(4096)", "must(min)", "must(max)").is(0, "many(3)").is(0, "must(4095)").is(1, "must(1)")
            .times(4, "must(2)").is(FULL, "must(1)").is(BAD, "must(0)", "must(4096)");
        new Run("way: BAD; FULL")
            .is(BAD, "way(0, 1)").so("must(1)").is(BAD, "way(-1, 1)", "way(1, 1)", "way(min, 1)", "way(max, 1)", "way(0, 0)", "way(0, -1)", "way(0, 4096)", "way(0, max)")
            .is(1, "many(4)").is(1, "way(0, 1)").is(2, "way(0, 4095)").is(3, "way(0, 1)").is(FULL, "way(0, 1)").is(BAD, "way(0, 0)", "way(0, 4096)", "way(1, 1)");
        new Run("MACHINES (that there are by WAYS)")
            .is(1, "many(4)").so("must(1)").is(1, "many(4)").so("way(0, 2)").is(2, "many(4)").so("must(1)").is(2, "many(4)").so("way(1, 1)", "way(1, 1)").is(6, "many(4)");
        Run most = new Run("MACHINES, as many as there can be");
        for (int m = 0; m < 6; m++) most.so("must(1)").times(3, "way(" + m + ", 1)");
        most.is(4096, "many(4)");
    }

    private static void needed() {
        new Run("A MACHINE does all STEPS of the WAYS, a CLAIM READS on a MACHINE that does all STEPS of it")
            .so("claim(1, 3, 239, -1)", "claim(1, 7, 239, -1)", "claim(1, 5, 239, -1)", "must(3)").is(1, "needed(0)").is(0, "needed(1)", "needed(2)")
            .so("must(4)").is(1, "needed(0)", "needed(1)", "needed(2)");
        new Run("NEEDED is a CLAIM that READS on all MACHINES")
            .so("claim(1, 3, 239, -1)", "claim(1, 1, 239, -1)", "must(3)", "way(0, 7)", "way(0, 11)").is(1, "needed(0)", "needed(1)").is(2, "many(14)")
            .so("way(0, 1)").is(0, "needed(0)").is(1, "needed(1)").is(1, "many(14)");
        new Run("NEEDED: a step that two MUSTS have in one of their WAYS alone")
            .so("claim(1, 1, 239, -1)", "must(1)", "way(0, 2)", "must(1)", "way(1, 2)").is(0, "needed(0)").is(11, "round(0)");
        new Run("without MUSTS: the one that does none")
            .so("claim(1, 1, 239, -1)").is(0, "needed(0)", "many(14)", "round(0)").is(1, "many(4)").so("must(1)").is(1, "needed(0)", "many(14)").is(NONE, "round(0)");
        new Run("needed: BAD")
            .is(BAD, "needed(0)").so("claim(1, 1, 239, -1)").is(0, "needed(0)").is(BAD, "needed(-1)", "needed(1)", "needed(min)", "needed(max)")
            .times(15, "claim(1, 1, 239, -1)").is(0, "needed(15)").is(BAD, "needed(16)");
    }

    private static void round() {
        new Run("ROUND: the first MACHINE, by MUSTS, then WAYS' numbers, on which it doesn't read")
            .so("claim(1, 3, 239, -1)", "must(1)", "way(0, 4)", "must(2)", "way(1, 8)").is(10, "round(0)")
            .so("claim(1, 1, 239, -1)", "claim(1, 2, 239, -1)").is(1, "round(1)").is(10, "round(2)");
        new Run("ROUND: of several WAYS the first")
            .so("claim(1, 1, 239, -1)", "must(1)", "way(0, 3)", "way(0, 2)", "way(0, 4)").is(2, "round(0)").so("claim(1, 2, 239, -1)").is(0, "round(1)");
        new Run("ROUND: the last WAY of the last MUST")
            .so("claim(1, 1, 239, -1)", "must(2)", "must(2)", "must(2)", "must(2)", "must(2)", "must(1)", "way(5, 1)", "way(5, 1)", "way(5, 2)").is(300000, "round(0)");
        Run last = new Run("ROUND: its WAYS as decimal digits, MUST 0 the last one");
        last.so("claim(1, 1, 239, -1)");
        int[] ways = {3, 1, 2, 3, 2, 1};
        for (int m = 0; m < 6; m++) {
            last.so("must(1)").times(ways[m] - 1, "way(" + m + ", 1)").so("way(" + m + ", 2)");
        }
        last.is(123213, "round(0)");
        new Run("ROUND: a step that no MACHINE does, one that each does")
            .so("claim(1, 2, 239, -1)", "claim(1, 3, 239, -1)", "claim(1, 2048, 239, -1)", "must(1)").is(0, "round(0)", "round(1)", "round(2)").so("must(2050)").is(NONE, "round(0)", "round(1)", "round(2)").so("way(1, 2)").is(NONE, "round(0)", "round(1)").is(10, "round(2)");
        new Run("round: BAD; NONE: it is NEEDED")
            .is(BAD, "round(0)").so("claim(1, 1, 239, -1)", "must(1)").is(NONE, "round(0)").is(BAD, "round(-1)", "round(1)", "round(min)", "round(max)").so("way(0, 2)").is(1, "round(0)");
        new Run("ROUND: as long as what is left of the MUSTS can leave a step out")
            .so("claim(1, 3, 239, -1)", "must(1)", "way(0, 4)", "must(2)", "must(1)").is(NONE, "round(0)").so("way(2, 2)").is(101, "round(0)");
    }

    private static void looks() {
        new Run("AMONG sworn ones NEEDED are at least those that were looked at and are")
            .so("claim(1, 1, 239, -1)", "claim(1, 1, 239, -1)", "claim(1, 2, 239, -1)", "must(1)").is(0, "among(false)")
            .so("swear(0, 0)", "swear(1, 0)", "swear(2, 0)").is(0, "among(false)").so("swear(0, 1)").is(1, "among(false)").so("swear(2, 1)").is(1, "among(false)").so("swear(1, 1)").is(2, "among(false)");
        new Run("at most all less those that were looked at and aren't")
            .so("claim(1, 1, 239, -1)", "claim(1, 1, 239, -1)", "claim(1, 2, 239, -1)", "must(1)").is(0, "among(true)")
            .so("swear(0, 0)").is(1, "among(true)").so("swear(1, 0)", "swear(2, 0)").is(3, "among(true)").so("swear(0, 1)").is(3, "among(true)").so("swear(2, 1)").is(2, "among(true)");
        new Run("AMONG all of 16")
            .times(16, "claim(1, 1, 239, -1)").so("must(1)", "swear(15, 0)", "swear(0, 0)").is(2, "among(true)").is(0, "among(false)").so("swear(15, 1)").is(1, "among(false)").is(2, "among(true)");
        new Run("swear: 1 if it wasn't yet, else 0")
            .so("claim(1, 1, 239, -1)", "claim(1, 1, 239, -1)").is(1, "swear(0, 0)").is(0, "swear(0, 0)").is(1, "swear(0, 1)").is(0, "swear(0, 1)", "swear(0, 0)").is(1, "swear(1, 0)", "swear(1, 1)");
        new Run("swear: STATE: looked at ahead of being sworn")
            .so("claim(1, 1, 239, -1)", "claim(1, 1, 239, -1)", "swear(1, 0)").is(STATE, "swear(0, 1)", "swear(0, 1)").is(1, "among(true)").is(1, "swear(0, 0)", "swear(0, 1)");
        new Run("swear: BAD ahead of STATE")
            .is(BAD, "swear(0, 0)", "swear(0, 1)").so("claim(1, 1, 239, -1)").is(BAD, "swear(-1, 0)", "swear(1, 0)", "swear(1, 1)", "swear(-1, 1)", "swear(0, -1)", "swear(0, 2)", "swear(max, 0)", "swear(min, 1)", "swear(0, min)", "swear(0, max)")
            .is(STATE, "swear(0, 1)").is(0, "among(true)");
    }
}
