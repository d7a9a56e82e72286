import java.lang.reflect.InvocationTargetException;
import java.lang.reflect.Method;
import java.util.Arrays;
import java.util.HashMap;
import java.util.Map;
import java.util.Random;

/** Runs of 512 calls with numbers from a told seed, each answer held against PlainModel's. */
public final class ModelTest {
    private static final int[] ODD = {-1, Integer.MIN_VALUE, Integer.MAX_VALUE, 240, 1000, -1000, 16, 8, 6, 100000, 7, 4096};
    private final Random r;
    private final Map<String, Method> real = new HashMap<>();
    private final Map<String, Method> model = new HashMap<>();
    private BoxLeaves x;
    private PlainModel m;
    private final StringBuilder told = new StringBuilder();
    private boolean wrong;
    private final Map<String, long[]> seen;
    private int steps;
    private int span;
    private int monthCap;

    ModelTest(long seed, Map<String, long[]> seen) {
        r = new Random(seed);
        this.seen = seen;
        for (Method q : BoxLeaves.class.getDeclaredMethods()) real.put(q.getName(), q);
        for (Method q : PlainModel.class.getDeclaredMethods()) {
            Method other = real.get(q.getName());
            if (other != null && Arrays.equals(q.getParameterTypes(), other.getParameterTypes())) {
                q.setAccessible(true);
                model.put(q.getName(), q);
            }
        }
    }

    int call(String name, Object... args) throws IllegalAccessException, InvocationTargetException {
        int got = (Integer) real.get(name).invoke(x, args);
        int due = (Integer) model.get(name).invoke(m, args);
        told.append(name).append(Arrays.toString(args)).append(" = ").append(got).append('\n');
        long[] tally = seen.computeIfAbsent(name, n -> new long[3]);
        tally[got < 0 ? 1 : got > 0 ? 2 : 0]++;
        if (got != due && !wrong) {
            wrong = true;
            System.out.println(told + "due is " + due);
        }
        return got;
    }

    int upTo(int n) { return r.nextInt(50) == 0 ? ODD[r.nextInt(ODD.length)] : r.nextInt(n); }
    PlainModel.Box someBox() { return m.s.boxes.isEmpty() || r.nextInt(3) == 0 ? null : m.s.boxes.get(r.nextInt(m.s.boxes.size())); }
    int month() {
        PlainModel.Box b = someBox();
        return b != null ? b.month() : upTo(r.nextInt(10) == 0 ? 240 : monthCap);
    }
    int k() { return r.nextInt(3) == 0 ? month() : r.nextInt(20) == 0 ? upTo(240) : m.s.now; }
    int maker() {
        PlainModel.Box b = someBox();
        return b != null ? b.maker() : upTo(6);
    }
    int where() {
        PlainModel.Box b = someBox();
        return b != null ? b.maker() * 10000 + b.land() * 1000 + b.month() : upTo(6) % 6 * 10000 + upTo(4) * 1000 + month();
    }
    int claimNumber() { return toss() && !m.s.claims.isEmpty() ? r.nextInt(m.s.claims.size()) : upTo(span); }
    int stepBits() {
        if (r.nextInt(40) == 0) return ODD[r.nextInt(ODD.length)];
        int bits = 1 << r.nextInt(steps);
        while (r.nextInt(3) != 0) bits |= 1 << r.nextInt(steps);
        return bits;
    }
    boolean toss() { return r.nextBoolean(); }

    String number() { return r.nextInt(200) == 0 ? "1000" : r.nextInt(30) == 0 ? "00" + r.nextInt(20) : String.valueOf(r.nextInt(r.nextInt(3) == 0 ? 1000 : 60)); }

    String one(int depth) {
        StringBuilder b = new StringBuilder();
        while (r.nextInt(4) == 0) b.append("not ");
        int pick = r.nextInt(6);
        if (pick == 0 && depth < 6) return b + "(" + cond(depth + 1) + ")";
        if (pick == 1) return b + "favoured";
        String[] names = {"boxes", "maker", "land", "month"};
        String gap = toss() ? " " : "";
        return b + names[r.nextInt(4)] + gap + "<=>".charAt(r.nextInt(3)) + gap + (toss() ? "" + r.nextInt(6) : number());
    }

    String cond(int depth) {
        StringBuilder b = new StringBuilder(one(depth));
        while (r.nextInt(depth < 2 ? 2 : 4) == 0) b.append(toss() ? " and " : " or ").append(one(depth));
        return b.toString();
    }

    String line() {
        switch (r.nextInt(9)) {
            case 0: return "share by " + new String[] {"heads", "kin", "worth"}[r.nextInt(3)];
            case 1:
            case 2:
            case 3: {
                StringBuilder b = new StringBuilder("rate ").append(number());
                int over = -1, n = r.nextInt(r.nextInt(4) == 0 ? 5 : 4);
                for (int i = 0; i < n; i++) {
                    over += 1 + r.nextInt(r.nextInt(3) == 0 ? 200 : 10);
                    b.append(" over ").append(r.nextInt(30) == 0 ? over - 5 : over).append(" rate ").append(number());
                }
                return b.toString();
            }
            case 4: return "most " + number();
            case 5: return "land " + r.nextInt(r.nextInt(20) == 0 ? 6 : 4) + " pays " + number();
            case 6: return "interest " + number();
            default: return "free if " + cond(r.nextInt(8) == 0 ? 0 : 1);
        }
    }

    void text() throws IllegalAccessException, InvocationTargetException {
        StringBuilder b = new StringBuilder();
        int lines = r.nextInt(10) == 0 ? 11 : 1 + r.nextInt(5);
        for (int i = 0; i < lines; i++) {
            b.append(i > 5 ? "most " + i : line()).append(toss() ? ";" : " ; ");
        }
        if (r.nextInt(4) == 0 && b.length() > 0) {
            int at = r.nextInt(b.length());
            switch (r.nextInt(4)) {
                case 0 -> b.setLength(at);
                case 1 -> b.deleteCharAt(at);
                case 2 -> b.insert(at, " ;()<=>a0z9".charAt(r.nextInt(11)));
                default -> b.setCharAt(at, (char) r.nextInt(256));
            }
        }
        int length = Math.min(b.length(), 225);
        for (int at = 0; at < length; at += 8) {
            int n = Math.min(8, length - at);
            long eight = r.nextInt(2) == 0 ? 0 : n == 8 ? 0 : r.nextLong() << 8 * n;
            for (int i = 0; i < n; i++) eight |= (b.charAt(at + i) & 255L) << 8 * i;
            call("feed", eight, n);
        }
        call("read");
    }

    void pool() throws IllegalAccessException, InvocationTargetException {
        switch (r.nextInt(24)) {
            case 0 -> call("months", upTo(r.nextInt(6) == 0 ? 62 : 5));
            case 1, 2, 3 -> call("claim", upTo(8) * 100 + upTo(4) * 10 + r.nextInt(10), stepBits(), r.nextInt(monthCap) * 1000 * r.nextInt(2) + (toss() ? 239 : month()), upTo(4) - 1);
            case 4 -> call("word", claimNumber(), toss());
            case 5, 6 -> call("alive", claimNumber(), month(), k());
            case 7 -> call("join", upTo(8), r.nextInt(4) != 0);
            case 8 -> call("members", month());
            case 9 -> {
                if (r.nextInt(3) == 0) call("must", r.nextInt(3) == 0 ? stepBits() : (1 << steps) - 1);
            }
            case 10 -> {
                if (toss()) call("way", upTo(6), stepBits() | stepBits() | stepBits());
            }
            case 11, 12 -> call("needed", claimNumber());
            case 13, 14, 15 -> call("round", claimNumber());
            case 16, 17, 18 -> call("swear", claimNumber(), upTo(2));
            case 19 -> call("among", toss());
            case 20 -> {
                if (r.nextInt(6) == 0) text();
            }
            case 21 -> call("version", upTo(6), toss() ? r.nextInt(3) : toss() ? 9 + upTo(11) : 29 + upTo(11));
            case 22 -> call("many", upTo(16));
            default -> {
                if (r.nextInt(8) == 0) call("keep");
                else if (r.nextInt(12) == 0) call("again");
            }
        }
    }

    void trade() throws IllegalAccessException, InvocationTargetException {
        switch (r.nextInt(26)) {
            case 0, 1 -> call("boxes", upTo(6) * 10000 + upTo(4) * 1000 + upTo(Math.max(1, m.s.now + 2)), upTo(r.nextInt(4) == 0 ? 1001 : 60));
            case 2 -> call("count", where(), k());
            case 3 -> {
                if (toss()) call("leave", upTo(6), upTo(103), month(), toss() ? 239 : month(), r.nextInt(3) == 0);
            }
            case 4 -> call("part", maker(), month());
            case 5, 6, 7 -> call("owe", maker(), month(), k());
            case 8 -> {
                if (toss()) call("paid", maker(), month(), toss() ? upTo(100000) : upTo(100));
            }
            case 9, 10 -> call("back", maker(), r.nextInt(3) == 0 ? upTo(240) : k());
            case 11 -> {
                int from = upTo(r.nextInt(3) == 0 ? 10001 : 80);
                if (toss()) call("drawn", where(), from, upTo(10) == 0 ? from - 1 : Math.max(from, upTo(10001)));
            }
            case 12 -> call("under", maker(), k());
            case 13, 14 -> call("sum", month(), k());
            case 15, 16, 17 -> call("share", upTo(8), month(), k());
            case 18 -> call("prove", month());
            case 19 -> call("row", upTo(8), upTo(2));
            case 20 -> {
                int i = upTo(6), what = upTo(2);
                int v = toss() ? call("row", i, what) + r.nextInt(3) - 1 : upTo(9);
                if (toss()) call("alterRow", i, what, v);
            }
            default -> call("judge", month());
        }
    }

    void ring() throws IllegalAccessException, InvocationTargetException {
        switch (r.nextInt(10)) {
            case 0 -> call("ask", upTo(8), upTo(r.nextInt(4) == 0 ? 10001 : 60));
            case 1, 2, 3 -> call("ring", month(), upTo(toss() ? 100001 : 300));
            case 4 -> {
                int digits = 0;
                for (int i = 0; i < 6; i++) digits = digits * 10 + (r.nextInt(60) == 0 ? 4 : r.nextInt(4));
                call("machine", upTo(6), toss() ? digits : toss() ? digits % 1000 : upTo(4));
            }
            case 5 -> call("crossed", upTo(8), upTo(6), toss());
            case 6 -> call("holes", where(), k(), toss());
            case 7 -> {
                if (r.nextInt(4) == 0) call("like", upTo(10001), upTo(101));
            }
            default -> call("fair", upTo(8), month(), upTo(5));
        }
    }

    void host() throws IllegalAccessException, InvocationTargetException {
        switch (r.nextInt(16)) {
            case 0 -> call("sheet", upTo(4), upTo(5) - 1, upTo(10) == 0 ? -1 : upTo(42));
            case 1, 2 -> call("put", upTo(4), upTo(toss() ? 41 : 6), toss() ? r.nextInt() : r.nextInt(200) / 150 * 10000000 + r.nextInt(1 << steps) * 1000 + r.nextInt(800));
            case 3 -> {
                int s = upTo(4);
                int sort = s >= 0 && s < 4 && r.nextInt(3) != 0 ? PlainModel.sortOf(m.sheets[s]) : upTo(4);
                call("item", s, sort, upTo(toss() ? 41 : 6));
            }
            case 4 -> {
                if (r.nextInt(3) != 0) return;
                int s = r.nextInt(4);
                if (toss()) {
                    call("sheet", s, 3, 4 + r.nextInt(4));
                    for (int i = 0; i < 5; i++) call("put", s, i, r.nextInt(200) / 150 * 10000000 + r.nextInt(1 << steps) * 1000 + r.nextInt(800));
                }
                call("comes", s, upTo(r.nextInt(4) == 0 ? 41 : 4), upTo(8));
            }
            case 5, 6, 7 -> {
                int what = upTo(5);
                call("shelf", upTo(4), what, what == 0 ? claimNumber() : upTo(6));
            }
            case 8, 9 -> {
                int s = upTo(4);
                int as = s < 0 || s > 3 || r.nextInt(3) == 0 ? upTo(14) : m.shelfWhat[s] == 3 ? 10 + r.nextInt(4) : upTo(7);
                call("taken", s, as);
            }
            case 10, 11, 12 -> {
                call("act", upTo(4), upTo(4), r.nextInt(5) == 0 ? r.nextInt() : r.nextInt(40) - 10);
                call("trace", upTo(8));
                call("many", 13);
            }
            case 13 -> call("trace", upTo(7));
            default -> call("many", upTo(15));
        }
    }

    boolean run() throws IllegalAccessException, InvocationTargetException {
        x = new BoxLeaves();
        m = new PlainModel();
        steps = 2 + r.nextInt(r.nextInt(3) == 0 ? 11 : 3);
        monthCap = 2 + r.nextInt(12);
        span = 17;
        told.setLength(0);
        int[] parts = {1 + r.nextInt(8), 1 + r.nextInt(8), r.nextInt(5), r.nextInt(5)};
        int all = parts[0] + parts[1] + parts[2] + parts[3];
        if (toss()) {
            call("must", (1 << steps) - 1);
            for (int o = 0; o < 5; o++) call("join", r.nextInt(8), true);
            for (int i = 0; i < 9; i++) call("claim", r.nextInt(8) * 100 + r.nextInt(3) * 10 + 1 + r.nextInt(9), 1 << r.nextInt(steps), 239, r.nextInt(5) - 1);
            if (toss()) call("way", 0, (1 << steps) - 2);
            Check.feedText(x, "rate 10 over 9 rate 7;");
            for (int i = 0; i < 22; i++) m.tape.append("rate 10 over 9 rate 7;".charAt(i));
            text();
        }
        for (int i = 0; i < 400 && !wrong; i++) {
            int pick = r.nextInt(all);
            if (pick < parts[0]) pool();
            else if (pick < parts[0] + parts[1]) trade();
            else if (pick < parts[0] + parts[1] + parts[2]) ring();
            else host();
        }
        return !wrong;
    }

    public static void main(String[] args) throws Exception {
        long runs = args.length > 0 ? Long.parseLong(args[0]) : 3000;
        long from = args.length > 1 ? Long.parseLong(args[1]) : 1;
        Check c = new Check("Model");
        Map<String, long[]> seen = new HashMap<>();
        for (long seed = from; seed < from + runs; seed++) {
            if (new ModelTest(seed, seen).run()) continue;
            c.due("the run of seed " + seed, 1, 0);
            break;
        }
        c.due("methods that were called", seen.size(), 48);
        if (args.length > 2) seen.forEach((name, t) -> System.out.println(name + " 0: " + t[0] + ", below: " + t[1] + ", above: " + t[2]));
        c.end();
    }
}
