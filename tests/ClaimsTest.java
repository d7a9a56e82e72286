/** Promises 1 to 7: a new object, months, claims, words of courts, who is in the pool. */
public final class ClaimsTest {
    private static final Check C = new Check("Claims");

    public static void main(String[] args) {
        newObject();
        months();
        claims();
        words();
        alive();
        joins();
        C.end();
    }

    private static void newObject() {
        BoxLeaves x = new BoxLeaves();
        for (int what = 0; what <= 14; what++) C.due("new: many(" + what + ")", x.many(what), what == 4 ? 1 : 0);
        C.due("new: members(239)", x.members(239), 0);
        C.due("new: again()", x.again(), -3);
        C.due("new: read()", x.read(), 0);
        for (int s = 0; s < 4; s++) {
            C.due("new: put", x.put(s, 0, 0), -11);
            C.due("new: taken", x.taken(s, 0), -11);
        }
        for (int o = 0; o < 8; o++) C.due("new: ask", x.ask(o, 0), 0);
        for (int m = 0; m < 6; m++) {
            C.due("new: machine", x.machine(m, 0), 0);
            C.due("new: part", x.part(m, 0), 100);
            C.due("new: owe", x.owe(m, 0, 0), 0);
        }
    }

    private static void months() {
        BoxLeaves x = new BoxLeaves();
        C.due("months(0)", x.months(0), -1);
        C.due("months(-1)", x.months(-1), -1);
        C.due("months(61)", x.months(61), -1);
        C.due("months(max)", x.months(Integer.MAX_VALUE), -1);
        C.due("months(60)", x.months(60), 60);
        C.due("months(60)", x.months(60), 120);
        C.due("months(60)", x.months(60), 180);
        C.due("months(60) above 239", x.months(60), -4);
        C.due("NOW behind a refusal", x.many(0), 180);
        C.due("months(59)", x.months(59), 239);
        C.due("months(1) above 239", x.months(1), -4);
        C.due("months(0) ahead of STATE", x.months(0), -1);
    }

    private static void claims() {
        BoxLeaves x = new BoxLeaves();
        int[][] bad = {
            {-1, 1, 0, -1}, {0, 1, 0, -1}, {100, 1, 0, -1}, {801, 1, 0, -1}, {41, 1, 0, -1}, {1000001, 1, 0, -1}, {Integer.MIN_VALUE, 1, 0, -1},
            {-99, 1, 0, -1}, {1, 0, 0, -1}, {1, -1, 0, -1}, {1, 4096, 0, -1}, {1, 1, -1, -1}, {1, 1, 240, -1}, {1, 1, 1240, -1}, {1, 1, 239999, -1}, {1, 1, 999, -1}, {1, 1, 240240, -1},
            {1, 1, 5004, -1}, {1, 1, 239238, -1}, {1, 1, Integer.MIN_VALUE, -1}, {1, 1, Integer.MAX_VALUE, -1}, {1, 1, 0, -2}, {1, 1, 0, 8}};
        for (int[] b : bad) C.due("claim(" + b[0] + ", " + b[1] + ", " + b[2] + ", " + b[3] + ")", x.claim(b[0], b[1], b[2], b[3]), -1);
        C.due("claims behind refusals", x.many(1), 0);
        C.due("steps of a span above 1000", x.claim(1, 1, 1001001, 0), -1);
        C.due("claim, the greatest", x.claim(739, 4095, 239239, 7), 0);
        C.due("claim, the least", x.claim(1, 1, 0, -1), 1);
        for (int i = 2; i < 16; i++) C.due("claim " + i, x.claim(1, 1, 239, 0), i);
        C.due("claim 16", x.claim(1, 1, 239, 0), -2);
        C.due("claim 16, wrong", x.claim(1, 0, 239, 0), -1);
        C.due("claims", x.many(1), 16);
        C.due("alive, the greatest", x.alive(0, 239, 0), 1);
        C.due("alive ahead of it", x.alive(0, 238, 0), 0);
        C.due("alive in one month", x.alive(1, 0, 0), 1);
        C.due("not behind it", x.alive(1, 1, 0), 0);
    }

    private static void words() {
        BoxLeaves x = new BoxLeaves();
        C.due("word of none", x.word(0, true), -1);
        x.claim(1, 1, 239, -1);
        C.due("word(-1)", x.word(-1, true), -1);
        C.due("word(1)", x.word(1, true), -1);
        for (int i = 0; i < 20; i++) C.due("word " + i, x.word(0, i % 2 == 0), i);
        C.due("word 20", x.word(0, true), -2);
        C.due("word 20 of none", x.word(1, true), -1);
        C.due("words", x.many(2), 20);
        C.due("the latest word of a month", x.alive(0, 0, 0), 1);
    }

    private static void alive() {
        BoxLeaves x = new BoxLeaves();
        x.claim(1, 1, 10020, -1);
        x.claim(1, 1, 239, -1);
        int[][] bad = {{-1, 0, 0}, {2, 0, 0}, {0, -1, 0}, {0, 240, 0}, {0, 0, -1}, {0, 0, 240}};
        for (int[] b : bad) C.due("alive(" + b[0] + ", " + b[1] + ", " + b[2] + ")", x.alive(b[0], b[1], b[2]), -1);
        x.months(5);
        x.word(0, true);
        x.months(5);
        x.word(0, false);
        x.word(1, true);
        x.months(5);
        x.word(0, true);
        C.due("ahead of its first month", x.alive(0, 9, 0), 0);
        C.due("in its last month", x.alive(0, 20, 0), 1);
        C.due("behind its last month", x.alive(0, 21, 0), 0);
        C.due("known at 4", x.alive(0, 15, 4), 1);
        C.due("known at 5", x.alive(0, 15, 5), 0);
        C.due("known at 9", x.alive(0, 15, 9), 0);
        C.due("known at 10", x.alive(0, 15, 10), 1);
        C.due("known at 14", x.alive(0, 15, 14), 1);
        C.due("known at 15", x.alive(0, 15, 15), 0);
        C.due("known at 239", x.alive(0, 15, 239), 0);
        C.due("a dead one in a month ahead of the word", x.alive(1, 0, 10), 0);
        C.due("the word as known ahead of it", x.alive(1, 100, 9), 1);
    }

    private static void joins() {
        BoxLeaves x = new BoxLeaves();
        C.due("join(-1)", x.join(-1, true), -1);
        C.due("join(8)", x.join(8, true), -1);
        C.due("join(7)", x.join(7, true), 0);
        C.due("join(0)", x.join(0, true), 0);
        C.due("members with 0 and 7", x.members(0), 129);
        C.due("join(0)", x.join(0, false), 1);
        C.due("join(7) again", x.join(7, true), 1);
        x.months(10);
        C.due("out", x.join(7, false), 1);
        C.due("in and out in a month", x.join(7, true), 0);
        C.due("out once more", x.join(7, false), 1);
        C.due("join(3)", x.join(3, true), 0);
        C.due("members(0)", x.members(0), 128);
        C.due("members(9)", x.members(9), 128);
        C.due("members(10)", x.members(10), 8);
        C.due("members(239)", x.members(239), 8);
        C.due("members(-1)", x.members(-1), -1);
        C.due("members(240)", x.members(240), -1);
        for (int i = 8; i < 24; i++) C.due("join word " + i, x.join(3, true), 1);
        C.due("join word 24", x.join(3, false), -2);
        C.due("join word 24 of none", x.join(8, false), -1);
        C.due("behind FULL", x.members(10), 8);
    }
}
