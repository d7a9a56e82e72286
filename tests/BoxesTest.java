/** Promises 17 to 31: boxes, leaves, what is owed, paid, due back, drawn, shared, proved and judged. */
public final class BoxesTest {
    private static final Check C = new Check("Boxes");
    private static final int[] BAD_WHERE = {-1, 60000, 4000, 10240, 999, 54000, Integer.MIN_VALUE, Integer.MAX_VALUE};

    public static void main(String[] args) {
        boxes();
        leaves();
        oweByLands();
        oweByRates();
        oweFree();
        oweInTime();
        back();
        under();
        shares();
        rows();
        threeRows();
        C.end();
    }

    /** One claim of OWNER 0, who is in, in each of LANDS 0 and 1, all needed. */
    private static BoxLeaves twoLands(String terms) {
        BoxLeaves x = new BoxLeaves();
        x.must(1);
        x.claim(1, 1, 239, -1);
        x.claim(11, 1, 239, -1);
        x.join(0, true);
        C.due("terms \"" + terms + "\"", Check.readText(x, terms), 0);
        return x;
    }

    private static void boxes() {
        BoxLeaves x = new BoxLeaves();
        for (int w : BAD_WHERE) C.due("boxes(" + w + ", 1)", x.boxes(w, 1), -1);
        for (int w : BAD_WHERE) C.due("count(" + w + ", 0)", x.count(w, 0), -1);
        for (int n : new int[] {0, -1, 1000}) C.due("boxes(0, " + n + ")", x.boxes(0, n), -1);
        C.due("count at -1", x.count(0, -1), -1);
        C.due("count at 240", x.count(0, 240), -1);
        C.due("boxes behind NOW", x.boxes(1, 1), -1);
        x.months(60);
        C.due("boxes in NOW", x.boxes(53060, 999), 0);
        C.due("boxes behind NOW", x.boxes(53061, 1), -1);
        C.due("boxes of month 0", x.boxes(53000, 5), 1);
        x.months(1);
        C.due("more of month 0", x.boxes(53000, 7), 2);
        C.due("count", x.count(53000, 61), 12);
        C.due("count as known ahead", x.count(53000, 60), 5);
        C.due("count as known ahead of all", x.count(53000, 59), 0);
        C.due("another maker's", x.count(43000, 61), 0);
        C.due("another land's", x.count(52000, 61), 0);
        C.due("a month to come", x.count(53239, 239), 0);
        for (int i = 3; i < 24; i++) C.due("boxes " + i, x.boxes(0, 1), i);
        C.due("boxes 24", x.boxes(0, 1), -2);
        C.due("boxes 24, wrong", x.boxes(0, 0), -1);
        C.due("times", x.many(6), 24);
        C.due("count of many", x.count(0, 61), 21);
    }

    private static void leaves() {
        BoxLeaves x = new BoxLeaves();
        C.due("maker -1", x.leave(-1, 1, 0, 0, false), -1);
        C.due("maker 6", x.leave(6, 1, 0, 0, false), -1);
        C.due("hundredths -1", x.leave(0, -1, 0, 0, false), -1);
        C.due("hundredths 101", x.leave(0, 101, 0, 0, false), -1);
        C.due("from -1", x.leave(0, 1, -1, 0, false), -1);
        C.due("till 240", x.leave(0, 1, 0, 240, false), -1);
        C.due("till ahead", x.leave(0, 1, 5, 4, false), -1);
        C.due("favoured till ahead", x.leave(0, 1, 5, 4, true), -1);
        C.due("part of maker -1", x.part(-1, 0), -1);
        C.due("part of maker 6", x.part(6, 0), -1);
        C.due("part in -1", x.part(0, -1), -1);
        C.due("part in 240", x.part(0, 240), -1);
        C.due("part without", x.part(0, 0), 100);
        C.due("a leave", x.leave(0, 60, 10, 20, false), 0);
        C.due("ahead of it", x.part(0, 9), 100);
        C.due("its first month", x.part(0, 10), 60);
        C.due("its last month", x.part(0, 20), 60);
        C.due("behind it", x.part(0, 21), 100);
        C.due("a second one", x.leave(0, 80, 15, 15, false), 1);
        C.due("the latest counts", x.part(0, 15), 80);
        C.due("not in other months", x.part(0, 16), 60);
        C.due("favoured", x.leave(1, 0, 0, 239, true), 2);
        C.due("the least of all others", x.part(1, 15), 60);
        C.due("without others", x.part(1, 9), 100);
        C.due("favoured behind an own one", x.leave(0, 5, 20, 20, true), 3);
        C.due("its own other one is one", x.part(0, 20), 60);
        C.due("favoured ones aren't", x.part(1, 20), 60);
        C.due("a number that does not matter", x.leave(2, 101, 0, 5, true), 4);
        C.due("its part", x.part(2, 0), 100);
        C.due("free of all", x.leave(3, 0, 0, 5, false), 5);
        C.due("nothing is the least", x.part(2, 0), 0);
        C.due("leave 6", x.leave(3, 100, 0, 5, false), 6);
        C.due("the least isn't the latest", x.part(2, 0), 0);
        C.due("part of the latest", x.part(3, 0), 100);
        C.due("leave 7", x.leave(3, 100, 0, 5, false), 7);
        C.due("leave 8", x.leave(3, 100, 0, 5, false), -2);
        C.due("leave 8, wrong", x.leave(6, 100, 0, 5, false), -1);
        C.due("leaves", x.many(7), 8);
    }

    private static void oweByLands() {
        BoxLeaves x = twoLands("rate 7;land 1 pays 33;land 0 pays 1;land 0 pays 150;most 999;");
        int[][] bad = {{-1, 0, 0}, {6, 0, 0}, {0, -1, 0}, {0, 240, 0}, {0, 0, -1}, {0, 0, 240}};
        for (int[] b : bad) C.due("owe(" + b[0] + ", " + b[1] + ", " + b[2] + ")", x.owe(b[0], b[1], b[2]), -1);
        C.due("without boxes", x.owe(0, 0, 0), 0);
        x.boxes(0, 3);
        C.due("land 0: 21 by 150", x.owe(0, 0, 0), 31);
        x.boxes(1000, 5);
        C.due("and land 1: 35 by 33, each cut", x.owe(0, 0, 0), 42);
        x.boxes(2000, 100);
        C.due("no claim in land 2", x.owe(0, 0, 0), 42);
        x.claim(721, 2, 239, -1);
        C.due("none that is needed in land 2", x.owe(0, 0, 0), 42);
        x.claim(721, 1, 239, -1);
        C.due("none of an owner in the pool", x.owe(0, 0, 0), 42);
        x.join(7, true);
        C.due("now there is one: 700 more", x.owe(0, 0, 0), 742);
        x.leave(0, 33, 0, 0, false);
        C.due("a third of it, cut", x.owe(0, 0, 0), 244);
        x.boxes(2000, 999);
        C.due("most behind the leave", x.owe(0, 0, 0), 999);
        C.due("another maker", x.owe(1, 0, 0), 0);
        C.due("another month", x.owe(0, 1, 0), 0);
        C.due("as known later", x.owe(0, 0, 239), 999);
    }

    private static void oweByRates() {
        BoxLeaves x = twoLands("rate 5 over 3 rate 9 over 10 rate 2 over 12 rate 0;");
        int[] sums = {5, 10, 15, 24, 33, 42, 51, 60, 69, 78, 80, 82, 82, 82};
        for (int i = 0; i < sums.length; i++) {
            x.boxes(0, 1);
            C.due("the rate of " + (i + 1), x.owe(0, 0, 0), sums[i]);
        }
        BoxLeaves z = twoLands("rate 9 over 0 rate 2;");
        z.boxes(0, 4);
        C.due("over 0", z.owe(0, 0, 0), 8);
        BoxLeaves y = twoLands("rate 999;land 0 pays 999;");
        for (int i = 0; i < 24; i++) y.boxes(0, 999);
        C.due("the greatest", y.owe(0, 0, 0), 239280719);
        C.due("the greatest sum", y.sum(0, 0), 239280719);
        C.due("the greatest share", y.share(0, 0, 0), 239280719);
        BoxLeaves n = twoLands("rate 5;rate 3;most 4;");
        n.boxes(0, 1);
        C.due("the latest rate", n.owe(0, 0, 0), 3);
        n.boxes(0, 1);
        C.due("most", n.owe(0, 0, 0), 4);
        n = twoLands("most 0;rate 5;");
        n.boxes(0, 1);
        C.due("most 0", n.owe(0, 0, 0), 0);
        n = twoLands("");
        n.boxes(0, 1);
        C.due("rate 0 without a line", n.owe(0, 0, 0), 0);
        n = twoLands("rate 9 over 5 rate 1;share by worth;most 3;interest 9;land 0 pays 50;free if land = 1;");
        C.due("a text of one line more", Check.readText(n, "rate 2;"), 1);
        n.boxes(0, 20);
        n.boxes(1000, 7);
        n.claim(102, 1, 239, -1);
        n.join(1, true);
        C.due("nothing of the texts ahead", n.owe(0, 0, 0), 54);
        C.due("nor of their interest", n.back(0, 2), 54);
        C.due("nor of how they share", n.share(1, 0, 0), 18);
        C.due("nor of their rate", Check.readText(n, "most 9;"), 2);
        C.due("without a rate", n.owe(0, 0, 0), 0);
        n = twoLands("rate 9 over 5 rate 1;rate 8;");
        n.boxes(0, 10);
        C.due("no over of an earlier line", n.owe(0, 0, 0), 80);
    }

    /** What MAKER 2, who made 10 in LAND 0 and 20 in LAND 1 in MONTH 0, owes by rate 1. */
    private static void free(String cond, int due, boolean favoured) {
        BoxLeaves x = twoLands("rate 1;" + cond);
        x.boxes(20000, 10);
        x.boxes(21000, 20);
        x.leave(2, 100, 0, 0, favoured);
        x.leave(1, 100, 0, 0, !favoured);
        C.due("owed " + cond + (favoured ? " (favoured)" : ""), x.owe(2, 0, 0), due);
    }

    private static void oweFree() {
        free("", 30, false);
        free("free if boxes < 10;", 30, false);
        free("free if boxes < 11;", 20, false);
        free("free if boxes = 20;", 10, false);
        free("free if boxes > 9;", 0, false);
        free("free if boxes > 10;", 10, false);
        free("free if maker = 2;", 0, false);
        free("free if maker > 2;", 30, false);
        free("free if land = 1;", 10, false);
        free("free if month = 0;", 0, false);
        free("free if month > 0;", 30, false);
        free("free if not land = 1;", 20, false);
        free("free if not not land = 1;", 10, false);
        free("free if favoured;", 30, false);
        free("free if favoured;", 0, true);
        free("free if not favoured;", 0, false);
        free("free if not favoured;", 30, true);
        free("free if land = 0 or land = 1 and maker = 3;", 20, false);
        free("free if maker = 3 and land = 1 or land = 0;", 20, false);
        free("free if (land = 0 or land = 1) and maker = 3;", 30, false);
        free("free if not (land = 0 or maker = 3);", 10, false);
        free("free if not land = 0 and land = 1;", 10, false);
        free("free if land = 1 and not (maker = 2 and (boxes < 20 or not month = 0));", 10, false);
        free("free if land < 0;", 30, false);
        free("free if land < 1;", 20, false);
        free("free if month < 1;", 0, false);
        free("free if maker < 3;", 0, false);
        free("free if maker < 2;", 30, false);
        free("free if land = 0 and favoured;", 30, false);
        free("free if land = 0 and favoured;", 20, true);
        free("free if land = 0 or favoured and land = 0;", 20, true);
        free("free if land = 1 and (land = 1 or favoured);", 10, true);
        free("free if land = 1 and not (favoured and land = 0 or favoured and maker = 3);", 10, true);
        free("free if land = 0;free if maker = 4;", 20, false);
        free("free if maker = 4;free if land = 0;", 20, false);
        free("free if land = 1;free if land = 0;", 0, false);
        free("free if maker = 4;free if maker = 4;free if maker = 5 or land = 1;", 10, false);
        free("free if maker = 4 or maker = 5 or land = 1 or maker = 0 and maker = 1;", 10, false);
    }

    private static void oweInTime() {
        BoxLeaves x = twoLands("rate 1;");
        x.boxes(0, 10);
        x.months(5);
        Check.readText(x, "rate 2;");
        x.boxes(4, 10);
        x.boxes(5, 10);
        x.months(1);
        x.boxes(0, 7);
        x.word(0, true);
        x.join(0, false);
        C.due("by the terms of its month", x.owe(0, 4, 5), 10);
        C.due("by the new terms", x.owe(0, 5, 5), 20);
        C.due("more boxes are known, but the claim is dead", x.owe(0, 0, 6), 0);
        C.due("as known ahead", x.owe(0, 0, 5), 10);
        C.due("boxes as known at 4", x.owe(0, 5, 4), 0);
        x.boxes(1006, 10);
        C.due("the owner is out in month 6", x.owe(0, 6, 6), 0);
        x.join(0, true);
        C.due("the owner is in again", x.owe(0, 6, 6), 20);
        C.due("in month 6 of land 1 alone", x.sum(6, 6), 20);
        C.due("sum of -1", x.sum(-1, 0), -1);
        C.due("sum of 240", x.sum(240, 0), -1);
        C.due("sum at -1", x.sum(0, -1), -1);
        C.due("sum at 240", x.sum(0, 240), -1);
        BoxLeaves y = twoLands("rate 1;most 7;");
        for (int m = 0; m < 6; m++) y.boxes(m * 10000, 5 + m);
        C.due("sum of all makers, most for each", y.sum(0, 0), 5 + 6 + 7 + 7 + 7 + 7);
    }

    private static void back() {
        BoxLeaves x = twoLands("rate 1;interest 7;");
        int[][] bad = {{-1, 0, 0}, {6, 0, 0}, {0, -1, 0}, {0, 240, 0}, {0, 0, -1}, {0, 0, 100000}};
        for (int[] b : bad) C.due("paid(" + b[0] + ", " + b[1] + ", " + b[2] + ")", x.paid(b[0], b[1], b[2]), -1);
        for (int[] b : new int[][] {{-1, 0}, {6, 0}, {0, -1}, {0, 240}}) C.due("back(" + b[0] + ", " + b[1] + ")", x.back(b[0], b[1]), -1);
        x.boxes(0, 50);
        C.due("not in its month", x.back(0, 0), 0);
        C.due("a month later", x.back(0, 1), 53);
        C.due("three months later, cut once", x.back(0, 3), 60);
        x.months(1);
        x.boxes(1, 10);
        C.due("each month by itself", x.back(0, 3), 60 + 11);
        C.due("paid", x.paid(0, 0, 30), 1);
        C.due("less what was paid", x.back(0, 1), 21);
        C.due("of another maker", x.paid(1, 0, 30), 2);
        C.due("in another month too much", x.paid(0, 1, 99999), 3);
        C.due("no month below 0", x.back(0, 3), 20 + 4);
        C.due("paid again", x.paid(0, 0, 20), 4);
        C.due("all of it", x.back(0, 239), 0);
        for (int i = 5; i <= 16; i++) C.due("paid " + i, x.paid(5, 239, 0), i);
        C.due("paid 17", x.paid(5, 239, 0), -2);
        C.due("paid 17, wrong", x.paid(6, 239, 0), -1);
        C.due("times paid", x.many(8), 16);
        C.due("back with all told", x.back(0, 239), 0);

        BoxLeaves z = twoLands("rate 1;");
        z.months(2);
        Check.readText(z, "rate 1;interest 100;");
        z.boxes(0, 10);
        z.boxes(2, 10);
        C.due("interest of its own month's terms, as known at 4", z.back(0, 4), 10 + 10 + 20);
        C.due("boxes aren't known at 1", z.back(0, 1), 0);

        BoxLeaves y = twoLands("rate 999;land 0 pays 999;interest 999;");
        for (int i = 0; i < 24; i++) y.boxes(0, 999);
        C.due("the greatest", y.back(0, 239), 2000000000);
    }

    private static void under() {
        BoxLeaves x = new BoxLeaves();
        for (int w : BAD_WHERE) C.due("drawn(" + w + ", 0, 0)", x.drawn(w, 0, 0), -1);
        int[][] bad = {{-1, 0}, {0, -1}, {0, 10000}, {10000, 10000}, {6, 5}, {Integer.MIN_VALUE, 0}};
        for (int[] b : bad) C.due("drawn(0, " + b[0] + ", " + b[1] + ")", x.drawn(0, b[0], b[1]), -1);
        for (int[] b : new int[][] {{-1, 0}, {6, 0}, {0, -1}, {0, 240}}) C.due("under(" + b[0] + ", " + b[1] + ")", x.under(b[0], b[1]), -1);
        x.boxes(0, 10);
        C.due("under without drawn", x.under(0, 0), 0);
        C.due("drawn", x.drawn(0, 15, 15), 0);
        C.due("under", x.under(0, 0), 5);
        C.due("drawn with a lower from", x.drawn(0, 12, 9999), 1);
        C.due("the greatest from, once", x.under(0, 0), 5);
        C.due("drawn with a greater from", x.drawn(0, 20, 20), 2);
        C.due("the greatest from", x.under(0, 0), 10);
        C.due("in a month to come", x.drawn(3239, 7, 8), 3);
        C.due("and that one", x.under(0, 0), 17);
        C.due("of another maker", x.drawn(10000, 9999, 9999), 4);
        C.due("not that one", x.under(0, 0), 17);
        C.due("its own", x.under(1, 0), 9999);
        x.months(1);
        x.boxes(0, 999);
        C.due("0 at least", x.under(0, 1), 7);
        C.due("as known ahead", x.under(0, 0), 17);
        for (int i = 5; i < 12; i++) C.due("drawn " + i, x.drawn(50000, 0, 0), i);
        C.due("drawn 12", x.drawn(50000, 0, 0), -2);
        C.due("drawn 12, wrong", x.drawn(50000, 1, 0), -1);
        C.due("draws", x.many(9), 12);
        C.due("under with all draws told", x.under(1, 0), 9999);
        C.due("under of drawn from 0", x.under(5, 0), 0);
    }

    /** OWNER 1: three claims, two of one kin, worth 9; OWNER 3: two without kin, worth 4; OWNER 5: one, not needed; OWNER 6: one, not in. */
    private static BoxLeaves owners(String how) {
        BoxLeaves x = new BoxLeaves();
        x.must(3);
        x.claim(104, 1, 239, 0);
        x.claim(102, 2, 239, 0);
        x.claim(103, 3, 239, 7);
        x.claim(301, 1, 239, -1);
        x.claim(303, 1, 239, -1);
        x.claim(509, 4, 239, -1);
        x.claim(609, 1, 239, -1);
        for (int o : new int[] {5, 3, 1}) x.join(o, true);
        Check.readText(x, "rate 1;" + how);
        return x;
    }

    private static void split(String how, int n, int first, int third) {
        BoxLeaves x = owners(how);
        x.boxes(0, n);
        int[] due = {0, first, 0, third, 0, 0, 0, 0};
        for (int o = 0; o < 8; o++) C.due("share " + how + " of " + n + " of owner " + o, x.share(o, 0, 0), due[o]);
        C.due("rows", x.prove(0), 2);
        C.due("row 0 owner", x.row(0, 0), 1);
        C.due("row 0 share", x.row(0, 1), first);
        C.due("row 1 owner", x.row(1, 0), 3);
        C.due("row 1 share", x.row(1, 1), third);
        C.due("judge", x.judge(0), 0);
    }

    private static void shares() {
        split("", 10, 6, 4);
        split("share by heads;", 11, 7, 4);
        split("share by worth;share by heads;", 12, 8, 4);
        split("share by kin;", 11, 6, 5);
        split("share by worth;", 13, 9, 4);
        split("share by worth;", 12, 9, 3);
        BoxLeaves x = owners("");
        for (int[] b : new int[][] {{-1, 0, 0}, {8, 0, 0}, {0, -1, 0}, {0, 240, 0}, {0, 0, -1}, {0, 0, 240}}) {
            C.due("share(" + b[0] + ", " + b[1] + ", " + b[2] + ")", x.share(b[0], b[1], b[2]), -1);
        }
        x.boxes(0, 10);
        x.months(1);
        x.word(0, true);
        x.word(1, true);
        C.due("as known at 0", x.share(1, 0, 0), 6);
        C.due("as known at 1: 10 by 1 of 3, and 1", x.share(1, 0, 1), 4);
        C.due("as known at 1", x.share(3, 0, 1), 6);

        BoxLeaves y = new BoxLeaves();
        y.must(1);
        for (int o = 0; o < 8; o++) {
            y.claim(o * 100 + 1, 1, 239, -1);
            if (o != 2) y.join(o, true);
        }
        Check.readText(y, "rate 1;");
        y.boxes(0, 17);
        int[] due = {3, 3, 0, 3, 2, 2, 2, 2};
        for (int o = 0; o < 8; o++) C.due("what is left over: owner " + o, y.share(o, 0, 0), due[o]);
        BoxLeaves q = new BoxLeaves();
        q.must(1);
        q.claim(1, 1, 239, -1);
        q.join(0, true);
        Check.readText(q, "rate 1;");
        q.boxes(0, 9);
        C.due("without rows, one weight of 1", q.judge(0), 1);
        C.due("all of it", q.share(0, 0, 0), 9);
        C.due("one row", q.prove(0), 1);
        C.due("it is right", q.judge(0), 0);
        BoxLeaves z = new BoxLeaves();
        C.due("nobody has a weight", z.share(0, 0, 0), 0);
        C.due("no rows", z.prove(0), 0);
    }

    private static void threeRows() {
        BoxLeaves x = new BoxLeaves();
        x.must(1);
        for (int o = 0; o < 3; o++) {
            x.claim(o * 100 + 1, 1, 239, -1);
            x.join(o, true);
        }
        Check.readText(x, "rate 1;");
        x.boxes(0, 30);
        C.due("three rows", x.prove(0), 3);
        C.due("weights of 1", x.judge(0), 0);
        x.alterRow(0, 1, 11);
        C.due("all together aren't the sum", x.judge(0), 3);
        x.alterRow(0, 1, 10);
        x.alterRow(1, 0, 0);
        C.due("the same owner twice", x.judge(0), 2);
        x.alterRow(1, 0, 2);
        x.alterRow(2, 0, 1);
        C.due("one below the one ahead", x.judge(0), 3);
        x.alterRow(2, 1, 0);
        x.alterRow(1, 1, Integer.MAX_VALUE);
        C.due("far too much", x.judge(0), 2);
    }

    private static void rows() {
        BoxLeaves x = owners("");
        C.due("prove(-1)", x.prove(-1), -1);
        C.due("prove(240)", x.prove(240), -1);
        C.due("judge(-1)", x.judge(-1), -1);
        C.due("judge(240)", x.judge(240), -1);
        C.due("row without rows", x.row(0, 0), -9);
        C.due("alterRow without rows", x.alterRow(0, 0, 1), -9);
        C.due("judge without rows, sum 0", x.judge(0), 0);
        x.boxes(0, 10);
        C.due("judge without rows", x.judge(0), 1);
        C.due("a sum without weights", owners("").judge(0), 0);
        C.due("prove", x.prove(0), 2);
        C.due("rows", x.many(10), 2);
        for (int[] b : new int[][] {{-1, 0}, {2, 0}, {0, -1}, {0, 2}}) {
            C.due("row(" + b[0] + ", " + b[1] + ")", x.row(b[0], b[1]), -9);
            C.due("alterRow(" + b[0] + ", " + b[1] + ")", x.alterRow(b[0], b[1], 5), -9);
        }
        C.due("right", x.judge(0), 0);
        C.due("1 more", x.alterRow(0, 1, 7), 6);
        C.due("the sum isn't: the last row", x.judge(0), 2);
        x.alterRow(0, 1, 8);
        C.due("2 more", x.judge(0), 1);
        x.alterRow(0, 1, 5);
        C.due("1 less", x.judge(0), 1);
        x.alterRow(0, 1, 6);
        x.alterRow(1, 1, 5);
        C.due("the last 1 more", x.judge(0), 2);
        x.alterRow(1, 1, 4);
        C.due("right again", x.judge(0), 0);
        for (int o : new int[] {-1, 0, 5, 6, 8, Integer.MAX_VALUE, Integer.MIN_VALUE}) {
            x.alterRow(0, 0, o);
            C.due("owner " + o, x.judge(0), 1);
        }
        C.due("what it was", x.alterRow(0, 0, 1), Integer.MIN_VALUE);
        C.due("the same owner", x.alterRow(1, 0, 1), 3);
        C.due("isn't above", x.judge(0), 2);
        x.prove(0);
        x.alterRow(0, 0, 5);
        x.alterRow(0, 1, 0);
        C.due("nothing for an owner without a weight", x.judge(0), 1);
        x.alterRow(0, 0, 3);
        x.alterRow(0, 1, 4);
        x.alterRow(1, 0, 1);
        x.alterRow(1, 1, 6);
        C.due("not by numbers", x.judge(0), 2);
        x.prove(0);
        x.boxes(0, 1);
        C.due("the sum grew", x.judge(0), 2);
        C.due("proved anew", x.prove(0), 2);
        C.due("right", x.judge(0), 0);
        x.months(1);
        x.join(3, false);
        C.due("of a month in which the second isn't in", x.judge(1), 1);
        C.due("its rows", x.prove(1), 1);
        C.due("a row of nothing", x.row(0, 1), 0);
        C.due("judge", x.judge(1), 0);
        C.due("another month", x.judge(0), 1);
        BoxLeaves y = owners("");
        y.boxes(0, 10);
        y.prove(0);
        y.months(1);
        y.word(3, true);
        C.due("as known now: weights 3 and 1, 10 by them is 7", y.judge(0), 1);
        C.due("rows as known now", y.prove(0), 2);
        C.due("7 and 1 left over", y.row(0, 1), 8);
        y.join(0, true);
        C.due("an owner without claims gets no row", y.prove(1), 2);
    }
}
