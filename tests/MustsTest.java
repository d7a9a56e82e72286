/** Promises 8 to 13: musts, ways, what is needed, a way round, sworn claims. */
public final class MustsTest {
    private static final Check C = new Check("Musts");

    public static void main(String[] args) {
        musts();
        needs();
        round();
        sworn();
        C.end();
    }

    private static void musts() {
        BoxLeaves x = new BoxLeaves();
        for (int steps : new int[] {0, -1, 4096, Integer.MIN_VALUE}) C.due("must(" + steps + ")", x.must(steps), -1);
        C.due("way of no must", x.way(0, 1), -1);
        C.due("must(4095)", x.must(4095), 0);
        for (int steps : new int[] {0, -1, 4096}) C.due("way(0, " + steps + ")", x.way(0, steps), -1);
        C.due("way(-1, 1)", x.way(-1, 1), -1);
        C.due("way(1, 1)", x.way(1, 1), -1);
        for (int w = 1; w < 4; w++) C.due("way " + w, x.way(0, 1), w);
        C.due("way 4", x.way(0, 1), -2);
        C.due("way 4, wrong", x.way(0, 0), -1);
        C.due("machines of one must", x.many(4), 4);
        for (int m = 1; m < 6; m++) C.due("must " + m, x.must(1), m);
        C.due("must 6", x.must(1), -2);
        C.due("must 6, wrong", x.must(0), -1);
        C.due("musts", x.many(3), 6);
        C.due("machines", x.many(4), 4);
        C.due("way of the last must", x.way(5, 2), 1);
        C.due("machines", x.many(4), 8);
    }

    private static void needs() {
        BoxLeaves x = new BoxLeaves();
        C.due("needed of none", x.needed(0), -1);
        x.claim(1, 1, 0, -1);
        x.claim(1, 3, 0, -1);
        x.claim(1, 4, 0, -1);
        x.claim(1, 2048, 0, -1);
        C.due("needed(-1)", x.needed(-1), -1);
        C.due("needed(4)", x.needed(4), -1);
        C.due("needed without musts", x.needed(0), 0);
        C.due("needed claims without musts", x.many(14), 0);
        x.must(2053);
        C.due("a step of the must", x.needed(0), 1);
        C.due("a step too many", x.needed(1), 0);
        C.due("another step", x.needed(2), 1);
        C.due("the last step", x.needed(3), 1);
        x.way(0, 7);
        C.due("in both ways", x.needed(0), 1);
        C.due("in one way", x.needed(1), 0);
        C.due("in both ways", x.needed(2), 1);
        C.due("in one way", x.needed(3), 0);
        x.must(2);
        C.due("its steps from two musts", x.needed(1), 1);
        C.due("needed claims", x.many(14), 3);
        x.way(1, 4);
        C.due("not by a second way", x.needed(1), 0);
        C.due("nor is a step that both musts may do in one way alone", x.needed(1), 0);
    }

    private static void round() {
        BoxLeaves x = new BoxLeaves();
        C.due("round of none", x.round(0), -1);
        x.claim(1, 5, 0, -1);
        C.due("round without musts", x.round(0), 0);
        C.due("round(-1)", x.round(-1), -1);
        C.due("round(1)", x.round(1), -1);
        x.must(5);
        C.due("needed", x.round(0), -3);
        x.must(1);
        x.way(0, 1);
        C.due("one way round", x.round(0), 1);
        x.way(1, 4);
        C.due("MUST 0 first, where both are one", x.round(0), 1);

        BoxLeaves y = new BoxLeaves();
        y.claim(1, 5, 0, -1);
        y.must(1);
        y.way(0, 2);
        y.must(4);
        y.way(1, 8);
        y.must(64);
        y.way(2, 128);
        C.due("the first machine by MUST 0's way", y.round(0), 10);
        y.claim(1, 1, 0, -1);
        C.due("way 1 of MUST 0, the others' first", y.round(1), 1);
        y.claim(1, 4, 0, -1);
        C.due("way 0 of MUST 0, way 1 of MUST 1", y.round(2), 10);
        y.claim(1, 64, 0, -1);
        C.due("way 1 of MUST 2", y.round(3), 100);
        y.claim(1, 512, 0, -1);
        C.due("the first of all", y.round(4), 0);

        BoxLeaves q = new BoxLeaves();
        q.claim(1, 3, 0, -1);
        q.must(1);
        q.way(0, 2);
        q.must(2);
        q.must(4);
        C.due("the musts behind have to do their steps", q.round(0), 1);
        q.must(1);
        C.due("then it is needed", q.round(0), -3);

        BoxLeaves z = new BoxLeaves();
        z.claim(1, 1, 0, -1);
        for (int m = 0; m < 6; m++) {
            z.must(1);
            for (int w = 1; w < 4; w++) z.way(m, w == 3 ? 2 : 1);
        }
        C.due("the last machine of all", z.round(0), 333333);
        C.due("machines", z.many(4), 4096);
    }

    private static void sworn() {
        BoxLeaves x = new BoxLeaves();
        for (int i = 0; i < 5; i++) x.claim(1, i < 2 ? 1 : 2, 0, -1);
        x.must(1);
        int[][] bad = {{-1, 0}, {5, 0}, {0, -1}, {0, 2}};
        for (int[] b : bad) C.due("swear(" + b[0] + ", " + b[1] + ")", x.swear(b[0], b[1]), -1);
        C.due("among nobody, least", x.among(false), 0);
        C.due("among nobody, most", x.among(true), 0);
        C.due("looked at first", x.swear(0, 1), -4);
        C.due("sworn", x.swear(0, 0), 1);
        C.due("sworn twice", x.swear(0, 0), 0);
        C.due("looked at", x.swear(0, 1), 1);
        C.due("looked at twice", x.swear(0, 1), 0);
        x.swear(1, 0);
        x.swear(2, 0);
        x.swear(3, 0);
        C.due("least", x.among(false), 1);
        C.due("most", x.among(true), 4);
        x.swear(2, 1);
        C.due("least, one isn't needed", x.among(false), 1);
        C.due("most, one isn't needed", x.among(true), 3);
        x.must(2);
        C.due("least, it is needed now", x.among(false), 2);
        C.due("most, it is needed now", x.among(true), 4);
    }
}
