/** Promises 32 to 38: what owners ask for, the ring, machines, holes, likes, fair sums. */
public final class RingTest {
    private static final Check C = new Check("Ring");

    public static void main(String[] args) {
        asks();
        ring();
        machines();
        holes();
        fair();
        C.end();
    }

    private static void asks() {
        BoxLeaves x = new BoxLeaves();
        for (int[] b : new int[][] {{-1, 0}, {8, 0}, {0, -1}, {0, 10000}}) C.due("ask(" + b[0] + ", " + b[1] + ")", x.ask(b[0], b[1]), -1);
        C.due("ask(7, 9999)", x.ask(7, 9999), 0);
        C.due("ask(7, 5)", x.ask(7, 5), 9999);
        C.due("ask(7, 0)", x.ask(7, 0), 5);
        C.due("ask(0, 0)", x.ask(0, 0), 0);
    }

    private static void ring() {
        BoxLeaves x = new BoxLeaves();
        for (int[] b : new int[][] {{-1, 0}, {240, 0}, {0, -1}, {0, 100000}}) C.due("ring(" + b[0] + ", " + b[1] + ")", x.ring(b[0], b[1]), -1);
        C.due("nobody has a weight", x.ring(0, 99999), 0);
        x.must(1);
        // weights 2, 1, 1: with all together OWNER 1 gets half of the sum
        x.claim(101, 1, 20, -1);
        x.claim(101, 1, 20, -1);
        x.claim(201, 1, 20, -1);
        x.claim(401, 1, 20, -1);
        x.claim(501, 2, 20, -1);
        C.due("all hold, none of them is in", x.ring(0, 100), 0b10110);
        C.due("not alive", x.ring(21, 100), 0);
        x.ask(1, 50);
        x.ask(2, 25);
        x.ask(4, 25);
        C.due("each gets just what it asks for", x.ring(0, 100), 0b10110);
        C.due("nobody: each alone gets less than it asks for", x.ring(0, 99), 0);
        x.ask(4, 26);
        C.due("without 4 the others get too little", x.ring(0, 100), 0);
        x.ask(1, 37);
        x.ask(2, 18);
        C.due("1 and 2 hold, 4 would get 25 of 26", x.ring(0, 100), 0b00110);
        C.due("with more all of them", x.ring(0, 104), 0b10110);
        x.ask(2, 0);
        x.ask(4, 0);
        x.ask(1, 9999);
        C.due("2 and 4: each gets 12, which is more than it asks for", x.ring(0, 100), 0b10100);
        BoxLeaves y = new BoxLeaves();
        y.must(1);
        for (int o = 0; o < 3; o++) y.claim(o * 100 + 1, 1, 239, -1);
        for (int o = 0; o < 3; o++) y.ask(o, 20);
        C.due("two together get 20 each, three 30", y.ring(0, 90), 0b111);
        for (int o = 0; o < 3; o++) y.ask(o, 31);
        C.due("none of them gets 31", y.ring(0, 90), 0);
        y.ask(0, 20);
        y.ask(1, 20);
        C.due("two of them hold", y.ring(0, 90), 0b011);
        y.ask(2, 29);
        C.due("the third comes", y.ring(0, 90), 0b111);
        y.ask(0, 10);
        y.ask(1, 40);
        y.ask(2, 10);
        C.due("0 and 2", y.ring(0, 90), 0b101);
        y.ask(0, 10);
        y.ask(1, 15);
        y.ask(2, 25);
        C.due("0 and 1, and 2 gets 30", y.ring(0, 90), 0b111);
        BoxLeaves z = new BoxLeaves();
        z.must(1);
        z.claim(1, 1, 239, -1);
        z.claim(101, 1, 239, -1);
        z.ask(0, 0);
        z.ask(1, 9999);
        C.due("0 alone", z.ring(0, 100), 1);
        z.ask(0, 25);
        C.due("0 gets 25 and may stay or go", z.ring(0, 100), 1);
        z.ask(0, 26);
        C.due("neither", z.ring(0, 100), 0);
        z.ask(0, 24);
        C.due("it must come", z.ring(0, 100), 1);
        z.ask(1, 24);
        C.due("both", z.ring(0, 100), 3);
        z.word(1, true);
        C.due("a dead claim has no weight", z.ring(0, 100), 1);
        byHand();
    }

    /** Small numbers of three owners. NONE and two widest sets are not met: nobody gets less as others come, so that with two sets that hold a wider one does. */
    private static void byHand() {
        int single = 0;
        for (int a = 0; a < 216; a++) {
            BoxLeaves x = new BoxLeaves();
            x.must(1);
            int[] w = {1 + a % 3, 1 + a / 3 % 3, 1};
            for (int o = 0; o < 3; o++) {
                for (int i = 0; i < w[o]; i++) x.claim(o * 100 + 1, 1, 239, -1);
                x.ask(o, a / 9 % 24 + o);
            }
            for (int p = 0; p < 60; p += 7) {
                int due = ringByHand(w, new int[] {a / 9 % 24, a / 9 % 24 + 1, a / 9 % 24 + 2}, p);
                C.due("ring of run " + a + " with " + p, x.ring(0, p), due);
                if (due > 0 && Integer.bitCount(due) == 1) single++;
            }
        }
        C.holds("some have rings of one", single > 0);
        BoxLeaves x = new BoxLeaves();
        x.must(1);
        x.claim(1, 1, 239, -1);
        x.claim(101, 1, 239, -1);
        x.claim(101, 1, 239, -1);
        x.ask(0, 9999);
        C.due("a set of one", x.ring(0, 99), 2);
    }

    private static int ringByHand(int[] w, int[] asks, int p) {
        int all = w[0] + w[1] + w[2], best = -3;
        for (int set = 0; set < 8; set++) {
            boolean holds = true;
            for (int o = 0; o < 3; o++) {
                int with = set | 1 << o, v = 0;
                for (int i = 0; i < 3; i++) v += (with >> i & 1) * w[i];
                int gets = p * v * w[o] / (all * all);
                holds &= with == set ? gets >= asks[o] : gets <= asks[o];
            }
            if (holds && (best < 0 || Integer.bitCount(set) > Integer.bitCount(best))) best = set;
        }
        return best;
    }

    private static void machines() {
        BoxLeaves x = new BoxLeaves();
        int[][] bad = {{-1, 0}, {6, 0}, {0, -1}, {0, 333334}, {0, 400000}, {0, 4}, {0, 40}, {0, 100400}, {0, 1000000}, {0, Integer.MAX_VALUE}};
        for (int[] b : bad) C.due("machine(" + b[0] + ", " + b[1] + ")", x.machine(b[0], b[1]), -1);
        C.due("machine(5, 333333)", x.machine(5, 333333), 0);
        C.due("machine(5, 10203)", x.machine(5, 10203), 333333);
        C.due("machine(5, 0)", x.machine(5, 0), 10203);
        C.due("machine(4, 0)", x.machine(4, 0), 0);
        for (int[] b : new int[][] {{-1, 0}, {8, 0}, {0, -1}, {0, 6}}) C.due("crossed(" + b[0] + ", " + b[1] + ")", x.crossed(b[0], b[1], true), -1);
        C.due("crossed", x.crossed(7, 5, true), 0);
        C.due("crossed again", x.crossed(7, 5, true), 1);
        C.due("not any more", x.crossed(7, 5, false), 1);
        C.due("not any more again", x.crossed(7, 5, false), 0);
        C.due("another maker", x.crossed(7, 4, false), 0);
    }

    private static void holes() {
        BoxLeaves x = new BoxLeaves();
        for (int w : new int[] {-1, 60000, 4000, 240}) C.due("holes(" + w + ")", x.holes(w, 0, false), -1);
        C.due("holes at -1", x.holes(0, -1, false), -1);
        C.due("holes at 240", x.holes(0, 240, true), -1);
        x.claim(1, 1, 10, -1);
        x.claim(101, 3, 239, -1);
        x.claim(211, 1, 239, -1);
        x.claim(301, 4, 239, -1);
        C.due("a machine without musts does nothing", x.holes(0, 0, false), 0);
        x.must(1);
        x.way(0, 4);
        x.must(8);
        x.way(1, 2);
        C.due("ways 0 and 0", x.holes(0, 0, false), 0b0001);
        C.due("land 1", x.holes(1000, 0, false), 0b0100);
        x.machine(0, 10);
        C.due("way 1 of MUST 1", x.holes(0, 0, false), 0b0011);
        x.machine(0, 11);
        C.due("way 1 of both", x.holes(0, 0, false), 0b1000);
        x.machine(0, 23);
        C.due("digits of no way: ways 0", x.holes(0, 0, false), 0b0001);
        x.machine(0, 2);
        C.due("a digit that is just above: way 0", x.holes(0, 0, false), 0b0001);
        x.machine(0, 333310);
        C.due("digits of no must", x.holes(0, 0, false), 0b0011);
        C.due("another maker's machine", x.holes(10000, 0, false), 0b0001);
        C.due("behind the last month of claim 0", x.holes(11, 0, false), 0b0010);
        C.due("none is twice", x.holes(0, 0, true), 0);
        x.crossed(0, 0, true);
        C.due("crossed isn't a hole", x.holes(0, 0, false), 0b0010);
        C.due("nor twice while out", x.holes(0, 0, true), 0);
        x.months(5);
        x.join(0, true);
        x.join(1, true);
        C.due("in and crossed is twice", x.holes(5, 5, true), 0b0001);
        C.due("in alone is neither", x.holes(5, 5, false), 0);
        C.due("in month 4 it is out", x.holes(4, 5, true), 0);
        C.due("in month 4 a hole", x.holes(4, 5, false), 0b0010);
        x.word(0, true);
        C.due("dead as known at 5", x.holes(5, 5, true), 0);
        C.due("alive as known at 4", x.holes(5, 4, true), 0b0001);
    }

    private static void fair() {
        BoxLeaves x = new BoxLeaves();
        for (int[] b : new int[][] {{0, 1}, {10000, 1}, {1, 0}, {1, 100}, {-1, -1}}) C.due("like(" + b[0] + ", " + b[1] + ")", x.like(b[0], b[1]), -1);
        for (int[] b : new int[][] {{-1, 0, 0}, {8, 0, 0}, {0, -1, 0}, {0, 240, 0}, {0, 0, -1}, {0, 0, 5}}) {
            C.due("fair(" + b[0] + ", " + b[1] + ", " + b[2] + ")", x.fair(b[0], b[1], b[2]), -1);
        }
        for (int way = 0; way < 5; way++) C.due("parted by 0 in way " + way, x.fair(0, 0, way), -4);
        C.due("like", x.like(10, 3), 1);
        C.due("no claims of its own", x.fair(0, 0, 0), 0);
        for (int way = 1; way < 5; way++) C.due("still parted by 0 in way " + way, x.fair(0, 0, way), -4);
        x.must(1);
        x.claim(9, 1, 239, -1);
        x.claim(8, 1, 239, -1);
        x.claim(101, 1, 239, -1);
        x.claim(202, 2, 239, -1);
        x.claim(312, 1, 100, -1);
        x.join(1, true);
        Check.readText(x, "rate 1;");
        x.boxes(0, 50);
        C.due("another like", x.like(9, 4), 2);
        C.due("way 0: 19 by 7, twice", x.fair(0, 0, 0), 5);
        C.due("way 1: 50 by 4, twice", x.fair(0, 0, 1), 25);
        C.due("way 2: 50 by 20, 17 times", x.fair(0, 0, 2), 42);
        C.due("the least", x.fair(0, 0, 3), 5);
        C.due("the most", x.fair(0, 0, 4), 42);
        C.due("of the one that is in", x.fair(1, 0, 0), 2);
        C.due("way 1", x.fair(1, 0, 1), 12);
        C.due("way 2", x.fair(1, 0, 2), 2);
        C.due("least", x.fair(1, 0, 3), 2);
        C.due("most", x.fair(1, 0, 4), 12);
        C.due("of one without needed claims", x.fair(2, 0, 4), 0);
        C.due("in a month without a sum", x.fair(0, 101, 1), 0);
        C.due("in that month by likes", x.fair(3, 101, 0), 0);
        x.months(1);
        x.word(0, true);
        C.due("as known now", x.fair(0, 0, 0), 2);
        C.due("as known now: 50 by 3", x.fair(0, 0, 1), 16);
        C.due("as known now: 50 by 11, 8 times", x.fair(0, 0, 2), 36);
        for (int i = 3; i <= 8; i++) C.due("like " + i, x.like(9999, 99), i);
        C.due("like 9", x.like(1, 1), -2);
        C.due("like 9, wrong", x.like(0, 1), -1);
        C.due("likes", x.many(11), 8);
        C.due("by all likes: 60013 by 601", x.fair(0, 0, 0), 99);
    }
}
