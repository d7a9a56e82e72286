/** Promises 48 and 49: what is kept, and what it becomes again. */
public final class KeptTest {
    private static final Check C = new Check("Kept");

    public static void main(String[] args) {
        nothing();
        all();
        notKept();
        latest();
        C.end();
    }

    private static void nothing() {
        BoxLeaves x = new BoxLeaves();
        C.due("again without", x.again(), -3);
        x.months(5);
        C.due("again without", x.again(), -3);
        C.due("nothing changed", x.many(0), 5);
        C.due("keep", x.keep(), 1);
        C.due("again", x.again(), 1);
    }

    private static BoxLeaves first() {
        BoxLeaves x = new BoxLeaves();
        x.must(1);
        x.way(0, 3);
        x.claim(5, 1, 239, 2);
        x.claim(101, 1, 239, -1);
        x.claim(119, 2, 200, -1);
        x.join(0, true);
        x.join(1, true);
        x.swear(0, 0);
        x.swear(2, 0);
        x.swear(2, 1);
        Check.readText(x, "rate 3 over 4 rate 2;interest 10;share by worth;free if maker = 3;land 1 pays 7;most 500;");
        x.boxes(0, 30);
        x.boxes(1000, 9);
        x.leave(1, 40, 0, 20, false);
        x.leave(2, 0, 0, 20, true);
        x.months(2);
        x.word(1, true);
        x.paid(0, 0, 5);
        x.drawn(0, 40, 50);
        x.ask(0, 20);
        x.machine(0, 1);
        x.crossed(0, 0, true);
        x.like(100, 7);
        return x;
    }

    /** All that can be asked of what is kept. */
    private static long[] facts(BoxLeaves x) {
        long[] f = new long[200];
        int n = 0;
        for (int what = 0; what <= 14; what++) {
            if (what != 10 && what != 12 && what != 13) f[n++] = x.many(what);
        }
        for (int c = 0; c < 5; c++) {
            f[n++] = x.alive(c, 1, 2);
            f[n++] = x.alive(c, 201, 1);
            f[n++] = x.alive(c, 1, 1);
            f[n++] = x.needed(c);
            f[n++] = x.round(c);
        }
        f[n++] = x.members(0);
        f[n++] = x.members(239);
        f[n++] = x.among(false);
        f[n++] = x.among(true);
        for (int i = 0; i < 7; i++) {
            f[n++] = x.version(0, 10 + i);
            f[n++] = x.version(1, 30 + i);
        }
        for (int m = 0; m < 6; m++) {
            f[n++] = x.count(m * 10000, 2);
            f[n++] = x.part(m, 3);
            f[n++] = x.owe(m, 0, 2);
            f[n++] = x.back(m, 9);
            f[n++] = x.under(m, 2);
            f[n++] = x.holes(m * 10000, 0, false);
            f[n++] = x.holes(m * 10000, 0, true);
        }
        for (int o = 0; o < 8; o++) {
            f[n++] = x.share(o, 0, 0);
            f[n++] = x.share(o, 0, 2);
            f[n++] = x.fair(o, 0, 0);
            f[n++] = x.fair(o, 0, 2);
        }
        f[n++] = x.sum(0, 2);
        f[n++] = x.ring(0, 500);
        for (int s = 0; s < 7; s++) f[n++] = x.sum(s, s);
        return f;
    }

    private static void change(BoxLeaves x) {
        x.months(3);
        x.must(3);
        x.way(0, 12);
        x.claim(203, 1, 100, 1);
        x.word(0, true);
        x.word(1, false);
        x.join(0, false);
        x.join(2, true);
        x.swear(1, 0);
        x.swear(0, 1);
        Check.readText(x, "rate 9;");
        x.boxes(0, 100);
        x.boxes(20000, 100);
        x.leave(1, 10, 0, 20, false);
        x.leave(2, 0, 0, 20, false);
        x.paid(0, 0, 9);
        x.drawn(0, 99, 99);
        x.ask(0, 9999);
        x.ask(1, 77);
        x.machine(0, 0);
        x.machine(3, 3);
        x.crossed(0, 0, false);
        x.crossed(1, 1, true);
        x.like(9000, 1);
    }

    private static void same(String when, long[] got, long[] due) {
        for (int i = 0; i < due.length; i++) C.due("fact " + i + " " + when, got[i], due[i]);
    }

    private static void all() {
        long[] due = facts(first());
        BoxLeaves x = first();
        C.due("keep", x.keep(), 1);
        same("behind keep", facts(x), due);
        for (int i = 0; i < 3; i++) {
            change(x);
            C.holds("it is another", facts(x)[0] != due[0]);
            C.due("again", x.again(), 1);
            same("again " + i, facts(x), due);
        }
        C.due("what was asked", x.ask(0, 0), 20);
        C.due("what was asked", x.ask(1, 0), 0);
        C.due("the machine", x.machine(0, 0), 1);
        C.due("another machine", x.machine(3, 0), 0);
        C.due("crossed", x.crossed(0, 0, false), 1);
        C.due("not crossed", x.crossed(1, 1, false), 0);
        C.due("sworn", x.swear(0, 0), 0);
        C.due("not looked at", x.swear(0, 1), 1);
        C.due("not sworn", x.swear(1, 0), 1);
        C.due("the next claim", x.claim(203, 1, 100, 1), 3);
        C.due("it isn't sworn", x.swear(3, 1), -4);
    }

    private static void notKept() {
        BoxLeaves x = first();
        x.prove(0);
        x.feed(0, 5);
        x.sheet(0, 2, 3);
        x.put(0, 1, 9);
        x.shelf(0, 0, 1);
        x.act(0, 1, 1);
        int bodies = x.many(13), rows = x.many(10);
        x.keep();
        x.feed(0, 3);
        x.put(0, 1, 8);
        x.sheet(1, 1, 4);
        x.shelf(0, 0, 0);
        x.act(0, 3, 1);
        x.alterRow(0, 1, 77);
        int more = x.many(13);
        C.holds("more bodies than ahead: " + more, more > bodies);
        x.again();
        C.due("rows", x.many(10), rows);
        C.due("the altered row", x.row(0, 1), 77);
        C.due("the tape", x.many(12), 8);
        C.due("the sheet's item", x.item(0, 2, 1), 8);
        C.due("the other sheet", x.item(1, 1, 3), 0);
        C.due("the shelf", x.taken(0, 0), 0);
        C.due("the trace", x.many(13), more);
    }

    private static void latest() {
        BoxLeaves x = new BoxLeaves();
        x.keep();
        x.months(4);
        x.keep();
        x.months(5);
        x.again();
        C.due("the latest", x.many(0), 4);
        x.months(1);
        x.again();
        C.due("it stays", x.many(0), 4);
        BoxLeaves y = new BoxLeaves();
        C.due("another object has none", y.again(), -3);
        for (int v = 0; v < 6; v++) y.read();
        y.keep();
        y.again();
        C.due("FULL again", y.read(), -2);
    }
}
