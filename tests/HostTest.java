/** Promises 39 to 47: sheets, shelves, acts of claims, the trace, how many. */
public final class HostTest {
    private static final Check C = new Check("Host");

    public static void main(String[] args) {
        sheets();
        narrowed();
        comes();
        shelves();
        rowsOnShelves();
        kinds();
        actsOfClaims();
        actsOfOthers();
        actsRefused();
        many();
        C.end();
    }

    private static void sheets() {
        BoxLeaves x = new BoxLeaves();
        int[][] bad = {{-1, 0, 1}, {4, 0, 1}, {0, -2, 1}, {0, 4, 1}, {0, 0, 41}, {0, 3, Integer.MAX_VALUE}, {4, 0, -1}, {0, 4, -1}};
        for (int[] b : bad) C.due("sheet(" + b[0] + ", " + b[1] + ", " + b[2] + ")", x.sheet(b[0], b[1], b[2]), -1);
        C.due("sheet(0, 0, -1)", x.sheet(0, 0, -1), -14);
        C.due("sheet(0, 3, min)", x.sheet(0, 3, Integer.MIN_VALUE), -14);
        C.due("a refused row isn't there", x.put(0, 0, 1), -11);
        C.due("missing, n above 40", x.sheet(0, -1, 41), 1);
        C.due("missing, n below 0", x.sheet(0, -1, Integer.MIN_VALUE), 1);
        C.due("a row of none", x.sheet(0, 2, 0), 1);
        C.due("its place 0", x.put(0, 0, 1), -12);
        C.due("a row of 40", x.sheet(3, 2, 40), 1);
        C.due("put(-1)", x.put(-1, 0, 1), -1);
        C.due("put(4)", x.put(4, 0, 1), -1);
        C.due("put to a missing one", x.put(1, 99, 1), -11);
        C.due("put to -1", x.put(3, -1, 1), -12);
        C.due("put to 40", x.put(3, 40, 1), -12);
        C.due("put to 39", x.put(3, 39, -13), 1);
        C.due("item(-1)", x.item(-1, 2, 0), -1);
        C.due("item(4)", x.item(4, 2, 0), -1);
        C.due("item of sort -1", x.item(3, -1, 0), -1);
        C.due("item of sort 4", x.item(3, 4, 0), -1);
        C.due("item of a missing one", x.item(1, 2, 99), -11);
        for (int sort : new int[] {0, 1, 3}) C.due("item of another sort", x.item(3, sort, 99), -13);
        C.due("item -1", x.item(3, 2, -1), -12);
        C.due("item 40", x.item(3, 2, 40), -12);
        C.due("item 39", x.item(3, 2, 39), -13);
        C.due("item 38", x.item(3, 2, 38), 0);
        x.put(3, 0, 5);
        C.due("made anew", x.sheet(3, 2, 40), 1);
        C.due("all 0, the first", x.item(3, 2, 0), 0);
        C.due("all 0, the last", x.item(3, 2, 39), 0);
        C.due("refused", x.sheet(3, 2, 41), -1);
        C.due("missing", x.sheet(3, -1, 0), 1);
        C.due("it is missing", x.item(3, 2, 0), -11);
    }

    private static void narrowed() {
        BoxLeaves x = new BoxLeaves();
        int[] told = {127, 128, 255, 256, -129, 32767, 32768, 65535, 65536, -32769, Integer.MAX_VALUE, Integer.MIN_VALUE};
        for (int sort = 0; sort < 4; sort++) x.sheet(sort, sort, told.length);
        for (int i = 0; i < told.length; i++) {
            for (int s = 0; s < 4; s++) C.due("put", x.put(s, i, told[i]), 1);
            C.due("byte of " + told[i], x.item(0, 0, i), (byte) told[i]);
            C.due("short of " + told[i], x.item(1, 1, i), (short) told[i]);
            C.due("int of " + told[i], x.item(2, 2, i), told[i]);
            C.due("long of " + told[i], x.item(3, 3, i), told[i]);
        }
    }

    private static void comes() {
        BoxLeaves x = new BoxLeaves();
        x.sheet(0, 3, 10);
        x.sheet(1, 2, 10);
        int[] told = {1, -1, 1001, 4095739, 2 * 10000000 + 1001, 800 * 1000 + 800 + 1, 4096 * 1000 + 1, 41 + 1000, 1010, 1001};
        for (int i = 0; i < 10; i++) x.put(0, i, told[i]);
        for (int n : new int[] {-1, 7}) C.due("n " + n, x.comes(0, 0, n), -1);
        C.due("no such sheet", x.comes(4, 0, 1), -1);
        C.due("no such sheet", x.comes(-1, 0, 1), -1);
        C.due("missing", x.comes(2, 0, 0), -11);
        C.due("ints", x.comes(1, 99, 0), -13);
        x.sheet(3, 0, 10);
        C.due("bytes", x.comes(3, 0, 1), -13);
        x.sheet(3, 1, 10);
        C.due("shorts", x.comes(3, 0, 1), -13);
        C.due("none from anywhere", x.comes(0, 99, 0), 0);
        C.due("place -1", x.comes(0, -1, 1), -12);
        C.due("place 10", x.comes(0, 10, 1), -12);
        C.due("place max", x.comes(0, Integer.MAX_VALUE, 6), -12);
        C.due("place min", x.comes(0, Integer.MIN_VALUE, 6), -12);
        C.due("nothing came", x.many(1), 0);
        C.due("two of six", x.comes(0, 0, 6), 2);
        C.due("claims", x.many(1), 2);
        C.due("the second's last month is 0", x.alive(1, 0, 0), 1);
        C.due("and no other", x.alive(1, 1, 0), 0);
        C.due("none of three", x.comes(0, 6, 3), 0);
        C.due("one, then outside", x.comes(0, 8, 6), -12);
        C.due("it came", x.many(1), 3);
        x.must(4095);
        x.shelf(0, 0, 1);
        C.due("without kin", x.taken(0, 3), -13);
        C.due("needed", x.taken(0, 1), 1);
        for (int i = 3; i < 15; i++) x.claim(1, 1, 0, 0);
        x.put(0, 3, 1001);
        x.put(0, 4, 1001);
        C.due("one, then FULL", x.comes(0, 1, 4), -2);
        C.due("it came", x.many(1), 16);
        C.due("what isn't so doesn't fill", x.comes(0, 5, 4), 0);
        C.due("FULL", x.comes(0, 9, 1), -2);
        C.due("FULL ahead of outside", x.comes(0, 9, 2), -2);
        C.due("outside, as none is so", x.comes(0, 8, 0), 0);
    }

    private static BoxLeaves things() {
        BoxLeaves x = new BoxLeaves();
        x.claim(7, 1, 239, 3);
        x.claim(5, 2, 239, -1);
        x.boxes(0, 20);
        x.boxes(0, 30);
        x.leave(0, 50, 0, 9, false);
        x.leave(0, 60, 0, 9, true);
        return x;
    }

    private static void shelves() {
        BoxLeaves x = things();
        int[][] bad = {{-1, 4, 0}, {4, 4, 0}, {0, -1, 0}, {0, 5, 0}, {0, 0, -1}, {0, 0, 2}, {0, 1, -1}, {0, 1, 2}, {0, 2, -1}, {0, 2, 2}, {0, 3, -1}, {0, 3, 4}};
        for (int[] b : bad) C.due("shelf(" + b[0] + ", " + b[1] + ", " + b[2] + ")", x.shelf(b[0], b[1], b[2]), -1);
        for (int[] b : new int[][] {{-1, 0}, {4, 0}, {0, -1}, {0, 7}, {0, 9}, {0, 14}}) C.due("taken(" + b[0] + ", " + b[1] + ")", x.taken(b[0], b[1]), -1);
        C.due("nothing at first", x.taken(0, 0), -11);
        C.due("nor a row", x.taken(0, 10), -11);
        C.due("a claim", x.shelf(0, 0, 1), 1);
        C.due("its number", x.taken(0, 0), 1);
        C.due("not a row", x.taken(0, 12), -13);
        C.due("refused", x.shelf(0, 0, 2), -1);
        C.due("still there", x.taken(0, 0), 1);
        C.due("nothing, every n", x.shelf(0, 4, -77), 1);
        C.due("nothing", x.taken(0, 0), -11);
        C.due("boxes 0", x.shelf(3, 1, 0), 1);
        C.due("their number", x.taken(3, 4), 0);
        C.due("leave 0", x.shelf(3, 2, 0), 1);
        C.due("its number", x.taken(3, 5), 0);
        C.due("boxes", x.shelf(3, 1, 1), 1);
        C.due("a box is a claim", x.taken(3, 0), 1);
        C.due("a box", x.taken(3, 4), 1);
        C.due("not a leave", x.taken(3, 5), -13);
        x.keep();
        x.claim(1, 1, 0, -1);
        x.boxes(0, 9);
        x.leave(0, 1, 0, 0, false);
        x.shelf(0, 0, 2);
        x.shelf(1, 1, 2);
        x.shelf(2, 2, 2);
        C.due("there", x.taken(2, 5), 2);
        x.again();
        for (int s = 0; s < 3; s++) {
            C.due("not there any more", x.taken(s, 0), -11);
            C.due("nor does it act", x.act(s, 0, 5), 0);
        }
        C.due("there still", x.taken(3, 0), 1);
    }

    private static void rowsOnShelves() {
        BoxLeaves x = new BoxLeaves();
        C.due("a missing one", x.shelf(0, 3, 2), 1);
        C.due("is nothing", x.taken(0, 10), -11);
        x.sheet(2, 1, 7);
        C.due("it stays nothing", x.taken(0, 11), -11);
        C.due("the row", x.shelf(0, 3, 2), 1);
        C.due("its items", x.taken(0, 11), 7);
        for (int as : new int[] {0, 6, 10, 12, 13}) C.due("taken for " + as, x.taken(0, as), -13);
        for (int sort = 0; sort < 4; sort++) {
            x.sheet(3, sort, sort + 4);
            x.shelf(3, 3, 3);
            for (int as = 10; as < 14; as++) C.due("a row of sort " + sort + " taken for " + as, x.taken(3, as), as == sort + 10 ? sort + 4 : -13);
        }
        C.due("a row does not act", x.act(0, 0, 5), 0);
        x.sheet(2, -1, 0);
        C.due("missing now", x.taken(0, 11), -11);
    }

    private static void kindsOf(BoxLeaves x, int shelf, int number, int... kinds) {
        for (int as = 0; as < 7; as++) {
            boolean is = false;
            for (int k : kinds) is |= k == as;
            C.due("shelf " + shelf + " taken for " + as, x.taken(shelf, as), is ? number : -13);
        }
    }

    private static void kinds() {
        BoxLeaves x = things();
        x.shelf(0, 0, 0);
        x.shelf(1, 0, 1);
        kindsOf(x, 0, 0, 0);
        x.swear(0, 0);
        x.swear(1, 0);
        kindsOf(x, 0, 0, 0, 2);
        kindsOf(x, 1, 1, 0, 2);
        x.must(3);
        kindsOf(x, 0, 0, 0, 1, 3);
        kindsOf(x, 1, 1, 0, 1);
        x.shelf(0, 1, 1);
        kindsOf(x, 0, 1, 0, 4);
        x.shelf(0, 2, 0);
        kindsOf(x, 0, 0, 0, 5);
        x.shelf(0, 2, 1);
        kindsOf(x, 0, 1, 0, 5, 6);
    }

    private static void acts(BoxLeaves x, int shelf, int act, int with, int due, int... bodies) {
        String name = "act(" + shelf + ", " + act + ", " + with + ")";
        C.due(name, x.act(shelf, act, with), due);
        C.due("bodies of " + name, x.many(13), bodies.length);
        for (int i = 0; i < bodies.length; i++) C.due("body " + i + " of " + name, x.trace(i), bodies[i]);
        C.due("behind the bodies of " + name, x.trace(bodies.length), -3);
    }

    private static void actsOfClaims() {
        BoxLeaves x = things();
        C.due("trace without", x.trace(0), -3);
        x.shelf(0, 0, 0);
        x.shelf(1, 0, 1);
        acts(x, 0, 0, 4, 11, 10);
        acts(x, 0, 1, 4, 22, 11, 10);
        acts(x, 0, 2, 22, 3, 12);
        acts(x, 0, 2, -22, -3, 12);
        acts(x, 1, 2, 22, 5, 12);
        acts(x, 1, 3, 4, 18 ^ 1, 13, 11, 10);
        acts(x, 0, 1, Integer.MAX_VALUE, (Integer.MAX_VALUE + 7) * 2, 11, 10);
        C.due("trace(-1)", x.trace(-1), -3);
        x.swear(1, 0);
        acts(x, 1, 0, 4, 8, 30, 10);
        acts(x, 1, 1, 4, 16, 11, 30, 10);
        acts(x, 1, 2, 22, 5, 12);
        acts(x, 1, 3, 4, 17, 13, 11, 30, 10);
        x.must(3);
        acts(x, 1, 0, 4, 9, 10);
        acts(x, 1, 1, 4, 23, 20, 11, 10);
        acts(x, 1, 2, 22, 5, 12);
        acts(x, 1, 3, 4, (23 ^ 1) * 3, 21, 13, 20, 11, 10);
        acts(x, 0, 0, 4, 11, 10);
        acts(x, 0, 1, 4, 27 - 9, 41, 20, 11, 10, 10);
        acts(x, 0, 2, 24, 4, 40, 12);
        acts(x, 0, 2, Integer.MAX_VALUE, (Integer.MAX_VALUE + 4) / 7, 40, 12);
        acts(x, 0, 3, 4, 18 * 3, 21, 13, 41, 20, 11, 10, 10);
    }

    private static void actsOfOthers() {
        BoxLeaves x = things();
        x.shelf(0, 1, 1);
        acts(x, 0, 0, 4, 34, 10);
        acts(x, 0, 1, 4, 68, 11, 10);
        acts(x, 0, 2, 60, 2, 12);
        acts(x, 0, 3, 4, (68 ^ 1) + 1, 50, 13, 11, 10, 12);
        x.boxes(0, 4);
        x.shelf(0, 1, 2);
        acts(x, 0, 3, 4, (16 ^ 2) + 2, 50, 13, 11, 10, 12);
        x.boxes(0, 4);
        x.shelf(0, 1, 3);
        acts(x, 0, 3, 4, (16 ^ 3) + 5, 50, 13, 11, 10, 12);
        x.shelf(1, 2, 0);
        acts(x, 1, 0, 4, 54 ^ 9, 60, 10);
        acts(x, 1, 1, 4, (54 ^ 9) * 2, 11, 60, 10);
        acts(x, 1, 2, 120, 2, 12);
        acts(x, 1, 3, 4, (54 ^ 9) * 2, 13, 11, 60, 10);
        x.shelf(2, 2, 1);
        acts(x, 2, 0, 4, 64 ^ 9, 60, 10);
        acts(x, 2, 1, 4, -2 * (64 ^ 9), 70, 11, 60, 10);
        acts(x, 2, 2, 120, 122, 71, 12);
        acts(x, 2, 3, 4, -2 * (64 ^ 9) ^ 1, 13, 70, 11, 60, 10);
    }

    private static void actsRefused() {
        BoxLeaves x = things();
        x.shelf(0, 0, 0);
        for (int[] b : new int[][] {{-1, 0}, {4, 0}, {0, -1}, {0, 4}, {1, 0}}) {
            x.act(0, 1, 4);
            acts(x, b[0], b[1], 4, 0);
        }
        x.sheet(0, 0, 5);
        x.shelf(1, 3, 0);
        x.act(0, 1, 4);
        acts(x, 1, 0, 4, 0);
        x.leave(0, 2, 0, 9, false);
        x.shelf(1, 2, 2);
        acts(x, 1, 2, 9, -15, 12);
        acts(x, 1, 0, 4, 6 ^ 9, 60, 10);
        x.leave(0, 3, 0, 9, true);
        x.shelf(1, 2, 3);
        acts(x, 1, 2, 9, -15, 71, 12);
        x.boxes(0, 2);
        x.shelf(1, 1, 2);
        acts(x, 1, 3, 9, -15, 50, 13, 11, 10, 12);
        acts(x, 1, 2, 9, -15, 12);
        for (int i = 2; i < 9; i++) x.claim(i, 1, 239, 0);
        x.shelf(1, 0, 3);
        x.must(1);
        acts(x, 1, 2, 9, -15, 40, 12);
        BoxLeaves y = new BoxLeaves();
        for (int i = 0; i < 3; i++) y.boxes(0, 1);
        y.shelf(0, 1, 2);
        acts(y, 0, 2, Integer.MIN_VALUE, Integer.MIN_VALUE, 12);
    }

    private static void many() {
        BoxLeaves x = things();
        C.due("many(-1)", x.many(-1), -1);
        C.due("many(15)", x.many(15), -1);
        x.months(3);
        x.must(1);
        x.must(2);
        x.way(1, 4);
        x.way(1, 8);
        x.word(0, true);
        Check.readText(x, "rate 1;");
        x.paid(0, 0, 1);
        x.paid(0, 0, 1);
        x.drawn(0, 0, 1);
        x.like(1, 1);
        x.join(0, true);
        x.boxes(3, 1);
        x.claim(1, 1, 239, -1);
        x.prove(3);
        x.feed(0, 7);
        x.shelf(0, 0, 0);
        x.act(0, 1, 1);
        int[] due = {3, 3, 1, 2, 3, 1, 3, 2, 2, 1, 1, 1, 7, 5, 2};
        for (int what = 0; what < due.length; what++) C.due("many(" + what + ")", x.many(what), due[what]);
    }
}
