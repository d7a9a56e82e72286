/** Passage 5 and promises 26 to 31: each sentence that names a boundary has a run of its own, both sides of it. */
public final class EdgesSharesTest {
    private static final int BAD = -1, NO_ROW = -9;

    public static void main(String[] args) {
        sum();
        weights();
        shares();
        prove();
        rows();
        judge();
        Run.end("EdgesShares");
    }

    /** OWNERS 0, 2 and 5 have one claim each that counts; 1 has none, 3 is not in, 4 has none that is needed; the sum of MONTH 0 is n. */
    private static Run three(String sentence, int n) {
        Run run = new Run(sentence).so("must(1)", "claim(1, 1, 239, -1)", "claim(201, 1, 239, -1)", "claim(501, 1, 239, -1)", "claim(301, 1, 239, -1)", "claim(401, 2, 239, -1)",
            "join(5, true)", "join(4, true)", "join(2, true)", "join(1, true)", "join(0, true)").read(0, "rate 1;");
        return n > 0 ? run.so("boxes(0, " + n + ")") : run;
    }

    private static Run shares(Run run, int month, int... due) {
        for (int o = 0; o < 8; o++) run.is(o < due.length ? due[o] : 0, "share(" + o + ", " + month + ", 239)");
        return run;
    }

    private static void sum() {
        three("A MONTH's SUM as KNOWN at k: OWE of all MAKERS", 1)
            .so("boxes(10000, 10)", "boxes(50000, 100)", "months(1)", "boxes(20000, 500)", "boxes(1, 900)").is(111, "sum(0, 0)").is(611, "sum(0, 1)", "sum(0, 239)").is(900, "sum(1, 1)").is(0, "sum(1, 0)", "sum(2, 239)");
        three("SUM: most is of each MAKER", 9).read(1, "rate 1;most 9;").so("boxes(0, 1)", "boxes(50000, 20)").is(18, "sum(0, 0)");
        three("sum: BAD", 5).is(BAD, "sum(-1, 0)", "sum(240, 0)", "sum(0, -1)", "sum(0, 240)", "sum(min, 0)", "sum(max, 0)", "sum(0, min)", "sum(0, max)").is(5, "sum(0, 0)", "sum(0, 239)").is(0, "sum(239, 0)");
        new Run("the greatest SUM").so("must(1)", "claim(1, 1, 239, -1)", "join(0, true)").read(0, "rate 999;land 0 pays 999;").times(12, "boxes(0, 999)").times(12, "boxes(50000, 999)").is(239280718, "sum(0, 0)", "share(0, 0, 0)");
    }

    private static Run weighed(String sentence, String how) {
        return new Run(sentence).so("must(1)", "claim(105, 1, 239, 7)", "claim(102, 1, 239, 7)", "claim(101, 1, 239, 0)", "claim(301, 1, 239, -1)", "claim(303, 1, 239, -1)", "join(1, true)", "join(3, true)").read(0, "rate 1;" + how);
    }

    private static void weights() {
        weighed("heads: 1 for each", "share by heads;").so("boxes(0, 10)").is(6, "share(1, 0, 0)").is(4, "share(3, 0, 0)");
        weighed("kin: 1 for each KIN (and each CLAIM without one) of the OWNER", "share by kin;").so("boxes(0, 10)").is(5, "share(1, 0, 0)", "share(3, 0, 0)").so("claim(301, 1, 239, 7)", "boxes(0, 20)").is(12, "share(1, 0, 0)").is(18, "share(3, 0, 0)");
        weighed("worth: WORTH of each", "share by worth;").so("boxes(0, 12)").is(8, "share(1, 0, 0)").is(4, "share(3, 0, 0)");
        weighed("CLAIMS of theirs that are ALIVE in that MONTH", "").so("claim(301, 1, 1239, -1)", "boxes(0, 15)").is(9, "share(1, 0, 0)").so("word(1, true)", "word(2, true)").is(5, "share(1, 0, 0)").is(10, "share(3, 0, 0)").so("word(2, false)").is(8, "share(1, 0, 0)");
        weighed("and NEEDED", "").so("claim(302, 2, 239, -1)", "boxes(0, 10)").is(6, "share(1, 0, 0)").so("must(2)").is(5, "share(1, 0, 0)");
        weighed("parted among OWNERS that are IN", "").so("boxes(0, 10)", "months(1)", "join(1, false)", "boxes(1, 10)").is(6, "share(1, 0, 1)").is(0, "share(1, 1, 1)").is(10, "share(3, 1, 1)");
        weighed("as KNOWN at k", "").so("boxes(0, 10)", "months(2)", "word(0, true)", "word(1, true)").is(6, "share(1, 0, 0)", "share(1, 0, 1)").is(4, "share(1, 0, 2)", "share(3, 0, 0)").is(6, "share(3, 0, 2)");
        weighed("the SUM as KNOWN at k", "").so("boxes(0, 10)", "months(3)", "boxes(0, 10)").is(6, "share(1, 0, 0)", "share(1, 0, 2)").is(12, "share(1, 0, 3)", "share(1, 0, 239)").is(4, "share(3, 0, 2)").is(8, "share(3, 0, 3)");
        weighed("ALIVE in that MONTH, not in the one as KNOWN at which", "").so("claim(301, 1, 5009, -1)", "claim(301, 1, 0, -1)", "boxes(0, 12)").is(6, "share(1, 0, 0)", "share(1, 0, 5)", "share(1, 0, 239)");
        weighed("by THE TERMS of that MONTH", "share by worth;").so("boxes(0, 24)", "months(1)").read(1, "rate 1;").so("boxes(1, 10)").is(16, "share(1, 0, 0)", "share(1, 0, 1)", "share(1, 0, 239)").is(6, "share(1, 1, 1)", "share(1, 1, 239)");
    }

    private static void shares() {
        String left = "SHARE: the SUM times WEIGHT by all WEIGHTS, cut; what is left over goes one by one to OWNERS with a WEIGHT, by numbers";
        shares(three(left, 0), 0);
        shares(three(left, 1), 0, 1);
        shares(three(left, 2), 0, 1, 0, 1);
        shares(three(left, 3), 0, 1, 0, 1, 0, 0, 1);
        shares(three(left, 10), 0, 4, 0, 3, 0, 0, 3);
        shares(three(left, 11), 0, 4, 0, 4, 0, 0, 3);
        shares(three(left, 12), 0, 4, 0, 4, 0, 0, 4);
        Run eight = new Run("what is left over, of eight OWNERS").so("must(1)").read(0, "rate 1;");
        for (int o = 0; o < 8; o++) eight.so("claim(" + (o * 100 + 1) + ", 1, 239, -1)", "join(" + o + ", true)");
        shares(eight.so("boxes(0, 7)"), 0, 1, 1, 1, 1, 1, 1, 1, 0);
        shares(eight.so("boxes(0, 1)"), 0, 1, 1, 1, 1, 1, 1, 1, 1);
        shares(eight.so("boxes(0, 1)"), 0, 2, 1, 1, 1, 1, 1, 1, 1);
        shares(new Run("(Without WEIGHTS nobody gets any.)").so("must(1)", "claim(1, 2, 239, -1)", "join(0, true)", "join(7, true)").read(0, "rate 9;").so("boxes(0, 9)").is(0, "sum(0, 0)", "prove(0)"), 0);
        three("share: BAD", 9).is(BAD, "share(-1, 0, 0)", "share(8, 0, 0)", "share(0, -1, 0)", "share(0, 240, 0)", "share(0, 0, -1)", "share(0, 0, 240)", "share(min, 0, 0)", "share(max, 0, 0)", "share(0, min, 0)", "share(0, max, 0)", "share(0, 0, min)", "share(0, 0, max)")
            .is(3, "share(0, 0, 0)", "share(5, 0, 239)").is(0, "share(7, 0, 0)", "share(0, 239, 0)");
    }

    private static void prove() {
        three("ROWS of a MONTH as KNOWN NOW: for each OWNER with a WEIGHT, by numbers: (OWNER, SHARE)", 10)
            .is(0, "many(10)").is(3, "prove(0)", "many(10)").is(0, "row(0, 0)").is(4, "row(0, 1)").is(2, "row(1, 0)").is(3, "row(1, 1)").is(5, "row(2, 0)").is(3, "row(2, 1)").is(NO_ROW, "row(3, 0)");
        three("ROWS: KNOWN NOW", 10)
            .so("months(1)", "word(0, true)").is(2, "prove(0)").is(2, "row(0, 0)").is(5, "row(0, 1)", "row(1, 0)", "row(1, 1)").is(NO_ROW, "row(2, 0)");
        three("ROWS become those of a MONTH", 10)
            .is(3, "prove(0)").so("months(1)", "join(0, false)", "join(2, false)", "join(5, false)").is(0, "prove(1)", "many(10)").is(NO_ROW, "row(0, 0)").is(3, "prove(0)");
        Run eight = new Run("ROWS of all eight OWNERS").so("must(1)").read(0, "rate 1;");
        for (int o = 0; o < 8; o++) eight.so("claim(" + (o * 100 + 1) + ", 1, 239, -1)", "join(" + o + ", true)");
        eight.so("boxes(0, 999)").is(8, "prove(0)").is(7, "row(7, 0)").is(124, "row(7, 1)").is(125, "row(6, 1)", "row(0, 1)").is(NO_ROW, "row(8, 0)").is(0, "judge(0)");
        three("prove: BAD", 10).is(3, "prove(0)").is(BAD, "prove(-1)", "prove(240)", "prove(min)", "prove(max)").is(3, "many(10)", "prove(239)").is(0, "row(0, 1)");
    }

    private static void rows() {
        three("row: -9: there is none such, another what", 10)
            .is(NO_ROW, "row(0, 0)", "row(0, 1)").so("prove(0)").is(NO_ROW, "row(-1, 0)", "row(3, 0)", "row(3, 1)", "row(8, 0)", "row(min, 0)", "row(max, 0)", "row(0, -1)", "row(0, 2)", "row(0, min)", "row(0, max)").is(5, "row(2, 0)").is(3, "row(2, 1)");
        three("alterRow: It becomes v: what it was", 10)
            .so("prove(0)").is(4, "alterRow(0, 1, max)").is(Integer.MAX_VALUE, "alterRow(0, 1, min)").is(Integer.MIN_VALUE, "alterRow(0, 1, -9)").is(-9, "row(0, 1)").is(5, "alterRow(2, 0, 77)").is(77, "row(2, 0)").is(3, "row(2, 1)", "row(1, 1)").is(2, "row(1, 0)").is(0, "row(0, 0)");
        three("alterRow: -9 likewise", 10)
            .is(NO_ROW, "alterRow(0, 0, 1)").so("prove(0)").is(NO_ROW, "alterRow(-1, 0, 1)", "alterRow(3, 0, 1)", "alterRow(3, 1, 1)", "alterRow(0, -1, 1)", "alterRow(0, 2, 1)", "alterRow(min, 0, 1)", "alterRow(0, max, 1)").is(0, "judge(0)");
    }

    private static void judge() {
        three("right is a ROW whose OWNER is IN", 10).so("prove(0)").is(2, "alterRow(1, 0, 3)").is(2, "judge(0)");
        three("and has a WEIGHT", 10).so("prove(0)", "alterRow(1, 0, 4)").is(2, "judge(0)").so("alterRow(1, 0, 1)").is(2, "judge(0)").so("alterRow(1, 0, 2)").is(0, "judge(0)");
        three("and has a WEIGHT, whatever it gets", 10).so("prove(0)", "alterRow(1, 0, 4)", "alterRow(1, 1, 0)").is(2, "judge(0)").so("alterRow(1, 1, 1)").is(2, "judge(0)").so("alterRow(1, 0, 3)").is(2, "judge(0)").so("alterRow(1, 1, 0)").is(2, "judge(0)").so("alterRow(0, 0, 1)", "alterRow(0, 1, 0)").is(1, "judge(0)").so("alterRow(2, 0, 7)").is(1, "judge(0)");
        three("an OWNER that is none", 10).so("prove(0)", "alterRow(2, 0, 8)").is(3, "judge(0)").so("alterRow(2, 0, 7)").is(3, "judge(0)").so("alterRow(2, 0, max)").is(3, "judge(0)").so("alterRow(0, 0, -1)").is(1, "judge(0)").is(-1, "alterRow(0, 0, min)").is(1, "judge(0)");
        three("is above that of the ROW ahead", 10).so("prove(0)", "alterRow(1, 0, 0)").is(2, "judge(0)").so("alterRow(1, 0, 5)").is(3, "judge(0)").so("alterRow(2, 0, 2)").is(3, "judge(0)").so("alterRow(1, 0, 2)", "alterRow(2, 0, 5)", "alterRow(0, 0, 2)").is(2, "judge(0)");
        three("and gets what its part of the SUM is, cut, or 1 more", 10).so("prove(0)")
            .so("alterRow(0, 1, 3)", "alterRow(1, 1, 4)").is(0, "judge(0)").so("alterRow(1, 1, 3)", "alterRow(2, 1, 4)").is(0, "judge(0)")
            .so("alterRow(2, 1, 2)").is(3, "judge(0)").so("alterRow(2, 1, 5)").is(3, "judge(0)").so("alterRow(1, 1, 2)").is(2, "judge(0)").so("alterRow(1, 1, 5)").is(2, "judge(0)").so("alterRow(0, 1, 2)").is(1, "judge(0)").so("alterRow(0, 1, 5)").is(1, "judge(0)")
            .so("alterRow(0, 1, max)").is(1, "judge(0)").so("alterRow(0, 1, min)").is(1, "judge(0)");
        three("its part, cut, where nothing is left over", 9).so("prove(0)").is(0, "judge(0)").so("alterRow(0, 1, 4)").is(3, "judge(0)").so("alterRow(0, 1, 2)").is(1, "judge(0)");
        three("and all together are the SUM (if not, the last ROW isn't right)", 10).so("prove(0)", "alterRow(0, 1, 3)").is(3, "judge(0)").so("alterRow(0, 1, 4)").is(0, "judge(0)").so("alterRow(1, 1, 4)").is(3, "judge(0)").so("alterRow(2, 1, 4)").is(3, "judge(0)");
        three("0 if all ROWS are right, else the first that isn't, and 1 more", 10).so("prove(0)").is(0, "judge(0)").so("alterRow(2, 1, 9)").is(3, "judge(0)").so("alterRow(1, 1, 9)").is(2, "judge(0)").so("alterRow(0, 1, 9)").is(1, "judge(0)");
        three("(without ROWS: if the SUM is 0, or there are no WEIGHTS; else 1)", 0).is(0, "judge(0)", "judge(239)").so("boxes(0, 1)").is(1, "judge(0)").is(0, "judge(239)");
        new Run("without ROWS: no WEIGHTS").so("join(0, true)").read(0, "rate 1;").so("boxes(0, 9)").is(0, "judge(0)");
        three("THE READER takes ROWS for a MONTH", 10).so("months(1)", "boxes(1, 11)", "prove(0)").is(0, "judge(0)").is(3, "judge(1)").so("join(2, false)").is(1, "judge(1)").is(0, "judge(0)").so("prove(1)").is(0, "judge(1)").is(1, "judge(0)");
        three("THE READER: as KNOWN NOW", 10).so("prove(0)", "months(1)", "word(1, true)").is(1, "judge(0)").so("prove(0)").is(0, "judge(0)");
        three("judge: BAD", 10).is(BAD, "judge(-1)", "judge(240)", "judge(min)", "judge(max)").so("prove(0)").is(BAD, "judge(-1)", "judge(240)").is(0, "judge(0)").is(1, "judge(239)");
    }
}
