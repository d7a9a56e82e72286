/** Passages 6 and 7 and promises 32 to 38: each sentence that names a boundary has a run of its own, both sides of it. NONE of ring() and two widest sets can't be come by: who comes makes none of the others get less. */
public final class EdgesRingTest {
    private static final int BAD = -1, FULL = -2, STATE = -4;

    public static void main(String[] args) {
        ask();
        ringOfOne();
        ringOfMore();
        machine();
        crossed();
        holes();
        likes();
        fair();
        Run.end("EdgesRing");
    }

    private static void ask() {
        new Run("OWNERS ask for so much outside (0 to 9999; 0 at first)")
            .is(0, "ask(0, 0)", "ask(7, 0)").is(BAD, "ask(0, -1)", "ask(0, 10000)", "ask(0, min)", "ask(0, max)").is(0, "ask(0, 9999)").is(9999, "ask(0, 0)").is(0, "ask(0, 0)");
        new Run("ask: What an OWNER asks for outside: what it was. BAD")
            .is(0, "ask(3, 5)").is(5, "ask(3, 6)").is(0, "ask(4, 7)").is(6, "ask(3, 0)").is(7, "ask(4, 0)").is(BAD, "ask(-1, 0)", "ask(8, 0)", "ask(min, 0)", "ask(max, 0)");
    }

    /** OWNER 0 with one claim that is needed. */
    private static Run one(String sentence) {
        return new Run(sentence).so("must(1)", "claim(1, 1, 5020, -1)");
    }

    private static void ringOfOne() {
        one("the SUM P (told, 0 to 99999)").is(BAD, "ring(5, -1)", "ring(5, 100000)", "ring(5, min)", "ring(5, max)").is(1, "ring(5, 0)", "ring(5, 99999)");
        one("ring: BAD").is(BAD, "ring(-1, 9)", "ring(240, 9)", "ring(min, 9)", "ring(max, 9)", "ring(-1, -1)").is(0, "ring(0, 9)", "ring(239, 9)").is(1, "ring(5, 9)");
        one("A set HOLDS, if each of it gets at least what it asks for").so("ask(0, 50)").is(0, "ring(5, 49)").is(1, "ring(5, 50)", "ring(5, 51)").so("ask(0, 9999)").is(0, "ring(5, 9998)").is(1, "ring(5, 9999)");
        one("a set of OWNERS with a WEIGHT in a MONTH").is(0, "ring(4, 9)", "ring(21, 9)").is(1, "ring(5, 9)", "ring(20, 9)").so("way(0, 2)").is(0, "ring(5, 9)");
        one("as KNOWN NOW").so("months(1)", "word(0, true)").is(0, "ring(5, 9)").so("months(1)", "word(0, false)").is(1, "ring(5, 9)");
        one("whether IN or not").so("claim(101, 1, 239, -1)", "join(1, true)").is(3, "ring(5, 9)");
        new Run("(0: nobody, if that HOLDS)").is(0, "ring(0, 0)", "ring(0, 99999)").so("claim(1, 1, 239, -1)").is(0, "ring(0, 99999)");
    }

    /** OWNERS 1, 2 and 4 have two, one and one claims that are needed: w is 4. */
    private static Run more(String sentence, int one, int two, int four) {
        return new Run(sentence).so("must(1)", "claim(109, 1, 239, 1)", "claim(109, 1, 239, 1)", "claim(201, 1, 239, -1)", "claim(401, 1, 239, -1)", "claim(509, 2, 239, -1)", "ask(1, " + one + ")", "ask(2, " + two + ")", "ask(4, " + four + ")");
    }

    private static void ringOfMore() {
        String parted = "each gets the SUM P times v times its own WEIGHT by (w times w), cut";
        more(parted, 50, 25, 25).is(22, "ring(0, 100)", "ring(0, 103)").is(0, "ring(0, 99)");
        more(parted, 51, 25, 25).is(0, "ring(0, 101)").is(22, "ring(0, 102)");
        more(parted, 50, 26, 25).is(0, "ring(0, 100)", "ring(0, 103)").is(22, "ring(0, 104)");
        more(parted, 37, 18, 9999).is(6, "ring(0, 100)").is(0, "ring(0, 98)");
        more(parted, 38, 18, 9999).is(0, "ring(0, 100)", "ring(0, 101)").is(6, "ring(0, 102)");
        more("v: those of the set", 9999, 12, 12).is(20, "ring(0, 100)", "ring(0, 96)").is(0, "ring(0, 95)");
        more("v: the set of one with two CLAIMS", 25, 9999, 9999).is(2, "ring(0, 100)").is(0, "ring(0, 99)");
        more("v: the set of one with one", 9999, 9999, 6).is(16, "ring(0, 100)", "ring(0, 96)").is(0, "ring(0, 95)");
        more("by heads, whatever THE TERMS say", 50, 25, 25).read(0, "share by worth;").is(22, "ring(0, 100)").read(1, "share by kin;").is(22, "ring(0, 100)");
        more("THE RING: of all sets that HOLD the one with the most OWNERS", 0, 0, 0).is(22, "ring(0, 0)", "ring(0, 100)", "ring(0, 99999)");
        more("the one with the most OWNERS: two of one, not one of two", 9999, 0, 0).is(20, "ring(0, 0)", "ring(0, 100)");
        more("the greatest", 9999, 9999, 9999).is(22, "ring(0, 39996)", "ring(0, 99999)").is(0, "ring(0, 39995)");
        more("and none other, taken in besides, would get more than it asks for", 50, 12, 13).is(22, "ring(0, 100)").so("ask(1, 9999)").is(0, "ring(0, 100)");
        Run eight = new Run("THE RING of all eight OWNERS").so("must(1)");
        for (int o = 0; o < 8; o++) eight.times(2, "claim(" + (o * 100 + 1) + ", 1, 239, -1)").so("ask(" + o + ", 9999)");
        eight.is(255, "ring(0, 79992)").is(0, "ring(0, 79991)").so("ask(0, 0)").is(1, "ring(0, 79991)").is(255, "ring(0, 79992)");
    }

    private static void machine() {
        new Run("machine: BAD: digits aren't 0 to 333333, a digit is above 3")
            .is(BAD, "machine(0, -1)", "machine(0, 333334)", "machine(0, 333340)", "machine(0, 400000)", "machine(0, 1000000)", "machine(0, 4)", "machine(0, 40)", "machine(0, 400)", "machine(0, 4000)", "machine(0, 40000)", "machine(0, 9)", "machine(0, 90000)", "machine(0, 332999)", "machine(0, min)", "machine(0, max)")
            .is(0, "machine(0, 0)", "machine(0, 333333)").is(333333, "machine(0, 3)").is(3, "machine(0, 30)").is(30, "machine(0, 300000)").is(300000, "machine(0, 0)");
        new Run("machine: there is no such MAKER").is(BAD, "machine(-1, 0)", "machine(6, 0)", "machine(min, 0)", "machine(max, 0)").is(0, "machine(0, 1)", "machine(5, 2)").is(1, "machine(0, 0)").is(2, "machine(5, 0)");
        new Run("A MAKER's MACHINE (0 at first): what it was").is(0, "machine(2, 123)").is(123, "machine(2, 321)").is(0, "machine(3, 0)").is(BAD, "machine(2, 4)").is(321, "machine(2, 0)");
        Run digits = new Run("(as decimal digits, MUST 0 the last one)").so("claim(1, 32, 239, -1)", "must(1)", "must(1)", "must(1)", "must(1)", "must(1)", "must(1)", "way(5, 2)", "way(5, 4)", "way(5, 32)");
        digits.is(0, "holes(0, 0, false)").so("machine(0, 300000)").is(1, "holes(0, 0, false)").so("machine(0, 200000)").is(0, "holes(0, 0, false)").so("machine(0, 33333)").is(0, "holes(0, 0, false)").so("way(0, 32)", "machine(0, 1)").is(1, "holes(0, 0, false)").so("machine(0, 10)").is(0, "holes(0, 0, false)");
        new Run("(A digit of no WAY: WAY 0.)").so("claim(1, 1, 239, -1)", "claim(1, 2, 239, -1)", "claim(1, 4, 239, -1)", "must(1)", "way(0, 2)", "machine(0, 1)").is(2, "holes(0, 0, false)")
            .so("machine(0, 2)").is(1, "holes(0, 0, false)").so("machine(0, 3)").is(1, "holes(0, 0, false)").so("way(0, 4)", "machine(0, 2)").is(4, "holes(0, 0, false)").so("machine(0, 3)").is(1, "holes(0, 0, false)").so("way(0, 6)").is(6, "holes(0, 0, false)");
        new Run("(A digit of no WAY: WAY 0.) in each place").so("claim(1, 1, 239, -1)", "claim(1, 2, 239, -1)", "claim(1, 4, 239, -1)", "claim(1, 8, 239, -1)", "must(1)", "must(2)", "way(1, 4)", "must(8)").is(11, "holes(0, 0, false)")
            .so("machine(0, 11)").is(13, "holes(0, 0, false)").so("machine(0, 111)").is(13, "holes(0, 0, false)").so("machine(0, 122)").is(11, "holes(0, 0, false)").so("machine(0, 312)").is(13, "holes(0, 0, false)").so("machine(0, 33)").is(11, "holes(0, 0, false)").so("machine(0, 1)").is(11, "holes(0, 0, false)");
        new Run("a digit of no MUST").so("claim(1, 1, 239, -1)", "machine(0, 333333)").is(0, "holes(0, 0, false)").so("must(1)", "machine(0, 333330)").is(1, "holes(0, 0, false)");
    }

    private static void crossed() {
        new Run("crossed: 1 if they had, else 0. BAD")
            .is(0, "crossed(7, 5, true)").is(1, "crossed(7, 5, true)", "crossed(7, 5, false)").is(0, "crossed(7, 5, false)", "crossed(7, 4, false)", "crossed(6, 5, true)", "crossed(0, 0, true)", "crossed(7, 5, true)").is(1, "crossed(6, 5, false)", "crossed(0, 0, true)", "crossed(7, 5, true)")
            .is(0, "crossed(3, 1, true)", "crossed(3, 2, true)", "crossed(1, 2, true)", "crossed(2, 1, true)", "crossed(1, 1, true)", "crossed(2, 2, true)").is(1, "crossed(3, 1, true)", "crossed(3, 2, false)", "crossed(3, 1, true)", "crossed(1, 2, true)", "crossed(2, 1, true)").is(0, "crossed(3, 3, false)", "crossed(3, 0, false)", "crossed(3, 2, true)")
            .is(BAD, "crossed(-1, 0, true)", "crossed(8, 0, true)", "crossed(0, -1, true)", "crossed(0, 6, true)", "crossed(min, 0, true)", "crossed(max, 0, true)", "crossed(0, min, true)", "crossed(0, max, true)");
    }

    private static void holes() {
        new Run("HOLES of a MAKER in a LAND and MONTH: CLAIMS there").so("must(1)", "claim(1, 1, 5010, -1)", "claim(131, 1, 239, -1)")
            .is(0, "holes(4, 0, false)", "holes(11, 0, false)", "holes(1005, 0, false)").is(1, "holes(5, 0, false)", "holes(10, 0, false)", "holes(50010, 0, false)").is(2, "holes(3000, 0, false)", "holes(53239, 0, false)").is(0, "holes(2000, 0, false)");
        new Run("that are ALIVE as KNOWN at k").so("must(1)", "claim(1, 1, 239, -1)", "months(3)", "word(0, true)").is(1, "holes(0, 2, false)", "holes(239, 2, false)").is(0, "holes(0, 3, false)", "holes(0, 239, false)");
        new Run("READ on its MACHINE").so("claim(1, 3, 239, -1)", "claim(1, 7, 239, -1)", "must(1)", "must(4)", "way(0, 2)").is(0, "holes(0, 0, false)").so("way(0, 3)", "machine(0, 2)").is(3, "holes(0, 0, false)").is(0, "holes(10000, 0, false)").so("way(1, 8)", "machine(0, 12)").is(1, "holes(0, 0, false)");
        new Run("READ on its MACHINE, needed or not").so("claim(1, 1, 239, -1)", "must(1)", "way(0, 2)").is(0, "needed(0)").is(1, "holes(0, 0, false)");
        new Run("whose OWNER is not IN and hasn't CROSSED with it").so("must(1)", "claim(1, 1, 239, -1)", "claim(101, 1, 239, -1)").is(3, "holes(0, 0, false)").so("crossed(0, 0, true)").is(2, "holes(0, 0, false)").is(3, "holes(10000, 0, false)").so("join(1, true)").is(0, "holes(0, 0, false)").so("join(0, true)", "crossed(1, 0, true)").is(0, "holes(0, 0, false)");
        new Run("TWICE: those whose OWNER is IN and has CROSSED with it").so("must(1)", "claim(1, 1, 239, -1)", "claim(101, 1, 239, -1)").is(0, "holes(0, 0, true)").so("crossed(0, 0, true)").is(0, "holes(0, 0, true)").so("join(1, true)").is(0, "holes(0, 0, true)")
            .so("join(0, true)").is(1, "holes(0, 0, true)").is(0, "holes(10000, 0, true)").so("crossed(1, 0, true)").is(3, "holes(0, 0, true)").so("crossed(0, 0, false)").is(2, "holes(0, 0, true)");
        new Run("IN in that MONTH").so("must(1)", "claim(1, 1, 239, -1)", "crossed(0, 0, true)", "claim(101, 1, 239, -1)", "months(2)", "join(0, true)", "join(1, true)").is(0, "holes(1, 2, true)").is(1, "holes(2, 0, true)").is(2, "holes(1, 2, false)").is(0, "holes(2, 0, false)");
        new Run("holes: as bits of CLAIMS").so("must(1)").times(16, "claim(1, 1, 239, -1)").is(65535, "holes(0, 0, false)").is(0, "holes(0, 0, true)").so("join(0, true)", "crossed(0, 0, true)").is(65535, "holes(0, 0, true)").is(0, "holes(0, 0, false)");
        new Run("holes: BAD").so("must(1)", "claim(31, 1, 239, -1)").is(BAD, "holes(-1, 0, false)", "holes(60000, 0, false)", "holes(4000, 0, false)", "holes(240, 0, true)", "holes(0, -1, false)", "holes(0, 240, false)", "holes(min, 0, true)", "holes(max, 0, true)", "holes(0, min, true)", "holes(0, max, true)").is(1, "holes(53239, 239, false)");
    }

    private static void likes() {
        new Run("LIKES (8 at most)").numbers(1, 8, "like(1, 1)").is(FULL, "like(1, 1)").is(8, "many(11)");
        new Run("a sum of 1 to 9999").is(BAD, "like(0, 1)", "like(-1, 1)", "like(10000, 1)", "like(min, 1)", "like(max, 1)").is(0, "many(11)").is(1, "like(1, 1)").is(2, "like(9999, 1)");
        new Run("for so many CLAIMS, 1 to 99").is(BAD, "like(1, 0)", "like(1, -1)", "like(1, 100)", "like(1, min)", "like(1, max)").is(0, "many(11)").is(1, "like(1, 1)").is(2, "like(1, 99)");
        new Run("like: BAD; FULL").times(8, "like(1, 1)").is(BAD, "like(0, 1)", "like(10000, 1)", "like(1, 0)", "like(1, 100)").is(FULL, "like(1, 1)").is(8, "many(11)");
        new Run("the eighth LIKE counts").so("must(1)", "claim(1, 1, 239, -1)").times(7, "like(1, 1)").is(1, "fair(0, 0, 0)").is(8, "like(9, 1)").is(2, "fair(0, 0, 0)").is(FULL, "like(9999, 1)").is(2, "fair(0, 0, 0)");
    }

    /** OWNER 0 has two claims, 1 one of worth 1, who is in, 3 one in another land; all are needed. */
    private static Run claims(String sentence) {
        return new Run(sentence).so("must(1)", "claim(9, 1, 239, -1)", "claim(8, 1, 239, -1)", "claim(101, 1, 239, -1)", "claim(202, 2, 239, -1)", "claim(312, 1, 100, -1)", "join(1, true)").read(0, "rate 1;");
    }

    private static void fair() {
        claims("way 0: the sums of all LIKES times how many NEEDED ALIVE CLAIMS the OWNER has, by all their CLAIMS, cut")
            .so("like(10, 3)").is(6, "fair(0, 0, 0)").is(3, "fair(1, 0, 0)").so("like(9, 4)").is(5, "fair(0, 0, 0)").is(2, "fair(1, 0, 0)", "fair(3, 100, 0)").is(0, "fair(2, 0, 0)", "fair(3, 101, 0)", "fair(7, 0, 0)");
        claims("way 1: the SUM of the MONTH times these by all that are NEEDED and ALIVE (of all OWNERS), cut")
            .so("boxes(0, 50)").is(25, "fair(0, 0, 1)").is(12, "fair(1, 0, 1)", "fair(3, 0, 1)").is(0, "fair(2, 0, 1)").so("word(4, true)").is(33, "fair(0, 0, 1)").is(16, "fair(1, 0, 1)").is(0, "fair(3, 0, 1)");
        claims("way 2: that by WORTH in place of how many")
            .so("boxes(0, 50)").is(42, "fair(0, 0, 2)").is(2, "fair(1, 0, 2)").is(5, "fair(3, 0, 2)").so("word(0, true)").is(36, "fair(0, 0, 2)").is(4, "fair(1, 0, 2)");
        claims("FAIR sums in a MONTH as KNOWN NOW").so("boxes(0, 50)", "like(7, 1)", "months(3)", "word(0, true)", "boxes(0, 7)").is(7, "fair(0, 0, 0)").is(19, "fair(0, 0, 1)").is(41, "fair(0, 0, 2)");
        claims("the least of the three (3), the most (4)").so("boxes(0, 50)", "like(10, 1)").is(20, "fair(0, 0, 0)").is(25, "fair(0, 0, 1)").is(42, "fair(0, 0, 2)").is(20, "fair(0, 0, 3)").is(42, "fair(0, 0, 4)").is(10, "fair(1, 0, 0)").is(2, "fair(1, 0, 3)").is(12, "fair(1, 0, 4)").so("like(90, 1)").is(100, "fair(0, 0, 4)").is(25, "fair(0, 0, 3)").is(2, "fair(1, 0, 3)").is(50, "fair(1, 0, 4)");
        claims("STATE: parted by 0 in that way: 0, without LIKES").is(STATE, "fair(0, 0, 0)").is(0, "fair(0, 0, 1)", "fair(0, 0, 2)").is(STATE, "fair(0, 0, 3)", "fair(0, 0, 4)").so("like(1, 1)").is(2, "fair(0, 0, 0)", "fair(0, 0, 4)").is(0, "fair(0, 0, 3)");
        new Run("STATE: parted by 0 in that way: 1 and 2, without CLAIMS that are NEEDED and ALIVE").so("must(1)", "claim(1, 2, 239, -1)", "claim(1, 1, 5239, -1)", "like(1, 1)").is(0, "fair(0, 4, 0)").is(STATE, "fair(0, 4, 1)", "fair(0, 4, 2)").is(0, "fair(0, 5, 1)", "fair(0, 5, 2)", "fair(7, 5, 1)").is(1, "fair(0, 5, 0)");
        new Run("STATE (of 3, 4: in any)").so("must(1)", "claim(1, 1, 5239, -1)").is(STATE, "fair(0, 5, 3)", "fair(0, 5, 4)").so("like(1, 1)").is(STATE, "fair(0, 4, 3)", "fair(0, 4, 4)").is(0, "fair(0, 5, 3)").is(1, "fair(0, 5, 4)");
        new Run("fair: BAD ahead of STATE").is(STATE, "fair(0, 0, 0)", "fair(7, 239, 4)").is(BAD, "fair(-1, 0, 0)", "fair(8, 0, 0)", "fair(0, -1, 0)", "fair(0, 240, 0)", "fair(0, 0, -1)", "fair(0, 0, 5)", "fair(min, 0, 0)", "fair(max, 0, 0)", "fair(0, min, 0)", "fair(0, max, 0)", "fair(0, 0, min)", "fair(0, 0, max)");
        Run most = new Run("the greatest FAIR sums").so("must(1)", "join(0, true)").read(0, "rate 999;land 0 pays 999;").times(16, "claim(9, 1, 239, -1)").times(24, "boxes(0, 999)").times(8, "like(9999, 1)");
        most.is(159984, "fair(0, 0, 0)", "fair(0, 0, 3)").is(239280719, "fair(0, 0, 1)", "fair(0, 0, 2)", "fair(0, 0, 4)");
    }
}
