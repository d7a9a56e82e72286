import java.util.ArrayList;
import java.util.List;
import java.util.TreeSet;

/** The document once more, written another way (all machines tried, terms as trees, acts as real classes), for runs by the thousand to be held against. */
final class PlainModel {
    static final int BAD = -1, FULL = -2, NONE = -3, STATE = -4;

    static final class Fault extends RuntimeException {
        final int code;
        Fault(int code) { super(null, null, false, false); this.code = code; }
    }

    record ClaimOf(int owner, int land, int worth, int steps, int first, int last, int kin) { }
    record Word(int claim, boolean dead, int known) { }
    record Join(int owner, boolean in, int month) { }
    record Box(int maker, int land, int month, int n, int known) { }
    record LeaveOf(int maker, int hundredths, int from, int till, boolean favoured) { }
    record Paid(int maker, int month, int sum) { }
    record Drawn(int maker, int land, int month, int from) { }
    record Like(int sum, int claims) { }
    record Line(int sort, int first, int[] numbers, Node cond) { }
    record Version(int from, List<Line> lines) { }

    // ---- kept
    static final class S {
        int now;
        List<ClaimOf> claims = new ArrayList<>();
        TreeSet<Integer> sworn = new TreeSet<>(), looked = new TreeSet<>();
        List<Word> words = new ArrayList<>();
        List<Join> joins = new ArrayList<>();
        List<List<Integer>> musts = new ArrayList<>();
        List<Version> versions = new ArrayList<>();
        List<Box> boxes = new ArrayList<>();
        List<LeaveOf> leaves = new ArrayList<>();
        List<Paid> paid = new ArrayList<>();
        List<Drawn> drawn = new ArrayList<>();
        List<Like> likes = new ArrayList<>();
        int[] asks = new int[8];
        int[] machines = new int[6];
        boolean[][] crossed = new boolean[8][6];

        S copy() {
            S s = new S();
            s.now = now;
            s.claims.addAll(claims);
            s.sworn.addAll(sworn);
            s.looked.addAll(looked);
            s.words.addAll(words);
            s.joins.addAll(joins);
            for (List<Integer> m : musts) s.musts.add(new ArrayList<>(m));
            s.versions.addAll(versions);
            s.boxes.addAll(boxes);
            s.leaves.addAll(leaves);
            s.paid.addAll(paid);
            s.drawn.addAll(drawn);
            s.likes.addAll(likes);
            s.asks = asks.clone();
            s.machines = machines.clone();
            for (int o = 0; o < 8; o++) s.crossed[o] = crossed[o].clone();
            return s;
        }
    }

    S s = new S();
    S kept;
    StringBuilder tape = new StringBuilder();
    List<int[]> rows = new ArrayList<>();
    Object[] sheets = new Object[4];
    int[] shelfWhat = {4, 4, 4, 4};
    int[] shelfN = new int[4];
    List<Integer> trace = new ArrayList<>();

    static boolean in(int v, int lo, int hi) { return v >= lo && v <= hi; }
    static boolean month(int m) { return in(m, 0, 239); }
    static boolean where(int w) {
        if (w < 0 || w > 99999) return false;
        String d = String.format("%05d", w);
        return d.charAt(0) <= '5' && d.charAt(1) <= '3' && Integer.parseInt(d.substring(2)) <= 239;
    }

    int months(int n) {
        if (!in(n, 1, 60)) return BAD;
        if (s.now + n > 239) return STATE;
        return s.now += n;
    }

    boolean isClaim(int c) { return in(c, 0, s.claims.size() - 1); }

    int claim(int who, int steps, int span, int kin) {
        if (!in(who, 0, 999) || !in(span, 0, 999999)) return BAD;
        int o = who / 100, l = who / 10 % 10, w = who % 10, f = span / 1000, t = span % 1000;
        if (o > 7 || l > 3 || w < 1 || !in(steps, 1, 4095) || !month(f) || !month(t) || t < f || !in(kin, -1, 7)) return BAD;
        if (s.claims.size() == 16) return FULL;
        s.claims.add(new ClaimOf(o, l, w, steps, f, t, kin));
        return s.claims.size() - 1;
    }

    int word(int c, boolean dead) {
        if (!isClaim(c)) return BAD;
        if (s.words.size() == 20) return FULL;
        s.words.add(new Word(c, dead, s.now));
        return s.words.size() - 1;
    }

    boolean lives(int c, int m, int k) {
        ClaimOf q = s.claims.get(c);
        boolean dead = false;
        for (Word w : s.words) if (w.claim == c && w.known <= k) dead = w.dead;
        return m >= q.first && m <= q.last && !dead;
    }

    int alive(int c, int m, int k) {
        if (!isClaim(c) || !month(m) || !month(k)) return BAD;
        return lives(c, m, k) ? 1 : 0;
    }

    boolean isIn(int o, int m) {
        boolean is = false;
        for (Join j : s.joins) if (j.owner == o && j.month <= m) is = j.in;
        return is;
    }

    int join(int o, boolean in) {
        if (!in(o, 0, 7)) return BAD;
        if (s.joins.size() == 24) return FULL;
        int was = isIn(o, s.now) ? 1 : 0;
        s.joins.add(new Join(o, in, s.now));
        return was;
    }

    int members(int m) {
        if (!month(m)) return BAD;
        int b = 0;
        for (int o = 0; o < 8; o++) if (isIn(o, m)) b += 1 << o;
        return b;
    }

    int must(int steps) {
        if (!in(steps, 1, 4095)) return BAD;
        if (s.musts.size() == 6) return FULL;
        s.musts.add(new ArrayList<>(List.of(steps)));
        known.clear();
        return s.musts.size() - 1;
    }

    int way(int m, int steps) {
        if (!in(m, 0, s.musts.size() - 1) || !in(steps, 1, 4095)) return BAD;
        if (s.musts.get(m).size() == 4) return FULL;
        s.musts.get(m).add(steps);
        known.clear();
        return s.musts.get(m).size() - 1;
    }

    /** All machines tried in their order, MUST 0 in the outmost place: the digits of the first one without these steps, or -1. */
    int without(int steps, int must, int done, int digits, int place) {
        if (must == s.musts.size()) return (steps & ~done) != 0 ? digits : -1;
        for (int w = 0; w < s.musts.get(must).size(); w++) {
            int got = without(steps, must + 1, done | s.musts.get(must).get(w), digits + w * place, place * 10);
            if (got >= 0) return got;
        }
        return -1;
    }

    /** What without() answered of steps; all machines are many, and must() and way() are rare. */
    final java.util.HashMap<Integer, Integer> known = new java.util.HashMap<>();

    int first(int c) { return known.computeIfAbsent(s.claims.get(c).steps, steps -> without(steps, 0, 0, 0, 1)); }

    boolean isNeeded(int c) { return first(c) < 0; }

    int needed(int c) { return !isClaim(c) ? BAD : isNeeded(c) ? 1 : 0; }

    int round(int c) {
        if (!isClaim(c)) return BAD;
        int r = first(c);
        return r < 0 ? NONE : r;
    }

    int swear(int c, int what) {
        if (!isClaim(c) || !in(what, 0, 1)) return BAD;
        if (what == 1 && !s.sworn.contains(c)) return STATE;
        return (what == 0 ? s.sworn : s.looked).add(c) ? 1 : 0;
    }

    int among(boolean most) {
        int yes = 0, no = 0;
        for (int c : s.looked) {
            if (isNeeded(c)) yes++;
            else no++;
        }
        return most ? s.sworn.size() - no : yes;
    }

    // ---- terms
    int feed(long eight, int n) {
        if (!in(n, 1, 8)) return BAD;
        if (tape.length() + n > 220) return FULL;
        for (int i = 0; i < n; i++) {
            tape.append((char) (eight & 255));
            eight >>>= 8;
        }
        return tape.length();
    }

    sealed interface Node permits Or, And, Not, Fav, Cmp { }
    record Or(Node a, Node b) implements Node { }
    record And(Node a, Node b) implements Node { }
    record Not(Node a) implements Node { }
    record Fav() implements Node { }
    record Cmp(String name, char sign, int n) implements Node { }

    static final class Reader {
        final List<String> pieces = new ArrayList<>();
        final List<Integer> places = new ArrayList<>();
        final int end;
        int at;

        Reader(String text) {
            end = text.length();
            java.util.regex.Matcher m = java.util.regex.Pattern.compile("[a-z]+|[0-9]+|[^ ]", java.util.regex.Pattern.DOTALL).matcher(text);
            while (m.find()) {
                pieces.add(m.group());
                places.add(m.start());
            }
        }

        String peek() { return at < pieces.size() ? pieces.get(at) : ""; }
        Fault fault() { return new Fault(at < pieces.size() ? places.get(at) : end); }
        boolean skip(String w) {
            if (!peek().equals(w)) return false;
            at++;
            return true;
        }
        void need(String w) { if (!skip(w)) throw fault(); }
        int number(int lo, int hi) {
            if (!peek().matches("[0-9]{1,3}") || !in(Integer.parseInt(peek()), lo, hi)) throw fault();
            return Integer.parseInt(pieces.get(at++));
        }
        int oneOf(String... all) {
            for (int i = 0; i < all.length; i++) if (skip(all[i])) return i;
            throw fault();
        }

        List<Line> text() {
            List<Line> lines = new ArrayList<>();
            while (at < pieces.size()) {
                if (lines.size() == 9) throw fault();
                lines.add(line());
                need(";");
            }
            return lines;
        }

        Line line() {
            int sort = oneOf("share", "rate", "most", "land", "interest", "free");
            switch (sort) {
                case 0: {
                    need("by");
                    return new Line(sort, oneOf("heads", "kin", "worth"), null, null);
                }
                case 1: {
                    List<Integer> all = new ArrayList<>(List.of(number(0, 999)));
                    while (peek().equals("over")) {
                        if (all.size() == 7) throw fault();
                        at++;
                        all.add(number(all.size() == 1 ? 0 : all.get(all.size() - 2) + 1, 999));
                        need("rate");
                        all.add(number(0, 999));
                    }
                    return new Line(sort, all.get(0), all.stream().mapToInt(i -> i).toArray(), null);
                }
                case 3: {
                    int land = number(0, 3);
                    need("pays");
                    return new Line(sort, land, new int[] {number(0, 999)}, null);
                }
                case 5: {
                    need("if");
                    return new Line(sort, -9, null, cond(0));
                }
                default: return new Line(sort, number(0, 999), null, null);
            }
        }

        Node cond(int open) {
            Node a = all(open);
            while (skip("or")) a = new Or(a, all(open));
            return a;
        }

        Node all(int open) {
            Node a = one(open);
            while (skip("and")) a = new And(a, one(open));
            return a;
        }

        Node one(int open) {
            if (skip("not")) return new Not(one(open));
            if (peek().equals("(")) {
                if (open == 4) throw fault();
                at++;
                Node a = cond(open + 1);
                need(")");
                return a;
            }
            if (skip("favoured")) return new Fav();
            String name = new String[] {"boxes", "maker", "land", "month"}[oneOf("boxes", "maker", "land", "month")];
            char sign = "<=>".charAt(oneOf("<", "=", ">"));
            return new Cmp(name, sign, number(0, 999));
        }
    }

    int read() {
        String text = tape.toString();
        tape.setLength(0);
        List<Line> lines;
        try {
            lines = new Reader(text).text();
        } catch (Fault f) {
            return -100 - f.code;
        }
        if (s.versions.size() == 6) return FULL;
        s.versions.add(new Version(s.now, lines));
        return s.versions.size() - 1;
    }

    int version(int v, int what) {
        if (!in(v, 0, s.versions.size() - 1)) return BAD;
        Version x = s.versions.get(v);
        if (what == 0) return x.lines.size();
        if (what == 1) return x.from;
        if (in(what, 10, 9 + x.lines.size())) return x.lines.get(what - 10).sort;
        if (in(what, 30, 29 + x.lines.size())) return x.lines.get(what - 30).first;
        return BAD;
    }

    List<Line> terms(int m) {
        List<Line> found = List.of();
        for (Version v : s.versions) if (v.from <= m) found = v.lines;
        return found;
    }

    static Line latest(List<Line> lines, int sort, int first) {
        Line found = null;
        for (Line l : lines) if (l.sort == sort && (first < 0 || l.first == first)) found = l;
        return found;
    }

    boolean holds(Node n, int boxes, int maker, int land, int m) {
        if (n instanceof Or o) return holds(o.a, boxes, maker, land, m) || holds(o.b, boxes, maker, land, m);
        if (n instanceof And o) return holds(o.a, boxes, maker, land, m) && holds(o.b, boxes, maker, land, m);
        if (n instanceof Not o) return !holds(o.a, boxes, maker, land, m);
        if (n instanceof Fav) {
            LeaveOf l = latestLeave(maker, m);
            return l != null && l.favoured;
        }
        Cmp c = (Cmp) n;
        int v = switch (c.name) { case "boxes" -> boxes; case "maker" -> maker; case "land" -> land; default -> m; };
        return c.sign == '<' ? v < c.n : c.sign == '=' ? v == c.n : v > c.n;
    }

    // ---- boxes
    int boxes(int w, int n) {
        if (!where(w) || w % 1000 > s.now || !in(n, 1, 999)) return BAD;
        if (s.boxes.size() == 24) return FULL;
        s.boxes.add(new Box(w / 10000, w / 1000 % 10, w % 1000, n, s.now));
        return s.boxes.size() - 1;
    }

    int total(int maker, int land, int m, int k) {
        int all = 0;
        for (Box b : s.boxes) if (b.maker == maker && b.land == land && b.month == m && b.known <= k) all += b.n;
        return all;
    }

    int count(int w, int k) {
        return !where(w) || !month(k) ? BAD : total(w / 10000, w / 1000 % 10, w % 1000, k);
    }

    int leave(int maker, int h, int from, int till, boolean fav) {
        if (!in(maker, 0, 5) || !month(from) || !month(till) || till < from) return BAD;
        if (!fav && !in(h, 0, 100)) return BAD;
        if (s.leaves.size() == 8) return FULL;
        s.leaves.add(new LeaveOf(maker, h, from, till, fav));
        return s.leaves.size() - 1;
    }

    LeaveOf latestLeave(int maker, int m) {
        LeaveOf found = null;
        for (LeaveOf l : s.leaves) if (l.maker == maker && in(m, l.from, l.till)) found = l;
        return found;
    }

    int partOf(int maker, int m) {
        LeaveOf l = latestLeave(maker, m);
        if (l == null) return 100;
        if (!l.favoured) return l.hundredths;
        int least = 100;
        for (LeaveOf o : s.leaves) if (o != l && !o.favoured && in(m, o.from, o.till)) least = Math.min(least, o.hundredths);
        return least;
    }

    int part(int maker, int m) { return !in(maker, 0, 5) || !month(m) ? BAD : partOf(maker, m); }

    /** Box by box. */
    long rateOf(List<Line> lines, int count) {
        Line rate = latest(lines, 1, -1);
        if (rate == null) return 0;
        long all = 0;
        for (int b = 1; b <= count; b++) {
            int pays = rate.numbers[0];
            for (int i = 1; i < rate.numbers.length; i += 2) if (b > rate.numbers[i]) pays = rate.numbers[i + 1];
            all += pays;
        }
        return all;
    }

    long oweOf(int maker, int m, int k) {
        List<Line> lines = terms(m);
        long all = 0;
        for (int land = 0; land < 4; land++) {
            boolean covered = false;
            for (int c = 0; c < s.claims.size(); c++) {
                ClaimOf q = s.claims.get(c);
                if (q.land == land && isIn(q.owner, m) && lives(c, m, k) && isNeeded(c)) covered = true;
            }
            int count = total(maker, land, m, k);
            boolean free = false;
            for (Line l : lines) if (l.sort == 5 && holds(l.cond, count, maker, land, m)) free = true;
            if (!covered || free) continue;
            Line pays = latest(lines, 3, land);
            all += rateOf(lines, count) * (pays == null ? 100 : pays.numbers[0]) / 100;
        }
        all = all * partOf(maker, m) / 100;
        Line most = latest(lines, 2, -1);
        return most == null ? all : Math.min(all, most.first);
    }

    int owe(int maker, int m, int k) { return !in(maker, 0, 5) || !month(m) || !month(k) ? BAD : (int) oweOf(maker, m, k); }

    int paid(int maker, int m, int sum) {
        if (!in(maker, 0, 5) || !month(m) || !in(sum, 0, 99999)) return BAD;
        if (s.paid.size() == 16) return FULL;
        s.paid.add(new Paid(maker, m, sum));
        return s.paid.size();
    }

    int back(int maker, int k) {
        if (!in(maker, 0, 5) || !month(k)) return BAD;
        long all = 0;
        for (int m = 0; m < k; m++) {
            boolean told = false;
            for (Box b : s.boxes) told |= b.maker == maker && b.month == m;
            if (!told) continue;
            long open = oweOf(maker, m, k);
            for (Paid p : s.paid) if (p.maker == maker && p.month == m) open -= p.sum;
            if (open <= 0) continue;
            Line i = latest(terms(m), 4, -1);
            long hundredths = 0;
            for (int n = m; n < k; n++) hundredths += i == null ? 0 : i.first;
            all += open + open * hundredths / 100;
        }
        return (int) Math.min(all, 2000000000L);
    }

    int drawn(int w, int from, int to) {
        if (!where(w) || !in(from, 0, 9999) || !in(to, 0, 9999) || to < from) return BAD;
        if (s.drawn.size() == 12) return FULL;
        s.drawn.add(new Drawn(w / 10000, w / 1000 % 10, w % 1000, from));
        return s.drawn.size() - 1;
    }

    int under(int maker, int k) {
        if (!in(maker, 0, 5) || !month(k)) return BAD;
        int all = 0;
        for (int land = 0; land < 4; land++) {
            for (int m = 0; m < 240; m++) {
                int from = 0;
                for (Drawn d : s.drawn) if (d.maker == maker && d.land == land && d.month == m) from = Math.max(from, d.from);
                if (from > 0) all += Math.max(0, from - total(maker, land, m, k));
            }
        }
        return all;
    }

    long sumOf(int m, int k) {
        long all = 0;
        for (int maker = 0; maker < 6; maker++) all += oweOf(maker, m, k);
        return all;
    }

    int sum(int m, int k) { return !month(m) || !month(k) ? BAD : (int) sumOf(m, k); }

    int weight(int o, int m, int k, int how) {
        int all = 0;
        TreeSet<Integer> kins = new TreeSet<>();
        for (int c = 0; c < s.claims.size(); c++) {
            ClaimOf q = s.claims.get(c);
            if (q.owner != o || !lives(c, m, k) || !isNeeded(c)) continue;
            if (how == 2) all += q.worth;
            else if (how == 0) all++;
            else kins.add(q.kin < 0 ? 100 + c : q.kin);
        }
        return all + kins.size();
    }

    int[] weights(int m, int k) {
        Line how = latest(terms(m), 0, -1);
        int[] w = new int[8];
        for (int o = 0; o < 8; o++) if (isIn(o, m)) w[o] = weight(o, m, k, how == null ? 0 : how.first);
        return w;
    }

    long[] shares(int m, int k) {
        int[] w = weights(m, k);
        long sum = sumOf(m, k), all = 0, left = sum;
        long[] got = new long[8];
        for (int v : w) all += v;
        if (all == 0) return got;
        for (int o = 0; o < 8; o++) {
            got[o] = sum * w[o] / all;
            left -= got[o];
        }
        while (left > 0) {
            for (int o = 0; o < 8 && left > 0; o++) {
                if (w[o] == 0) continue;
                got[o]++;
                left--;
            }
        }
        return got;
    }

    int share(int o, int m, int k) { return !in(o, 0, 7) || !month(m) || !month(k) ? BAD : (int) shares(m, k)[o]; }

    int prove(int m) {
        if (!month(m)) return BAD;
        int[] w = weights(m, s.now);
        long[] got = shares(m, s.now);
        rows.clear();
        for (int o = 0; o < 8; o++) if (w[o] > 0) rows.add(new int[] {o, (int) got[o]});
        return rows.size();
    }

    int row(int i, int what) { return !in(i, 0, rows.size() - 1) || !in(what, 0, 1) ? -9 : rows.get(i)[what]; }

    int alterRow(int i, int what, int v) {
        int was = row(i, what);
        if (in(i, 0, rows.size() - 1) && in(what, 0, 1)) rows.get(i)[what] = v;
        return was;
    }

    int judge(int m) {
        if (!month(m)) return BAD;
        int[] w = weights(m, s.now);
        long sum = sumOf(m, s.now), all = 0, got = 0;
        for (int v : w) all += v;
        if (rows.isEmpty()) return sum == 0 || all == 0 ? 0 : 1;
        int ahead = -1;
        for (int i = 0; i < rows.size(); i++) {
            int[] r = rows.get(i);
            if (!in(r[0], 0, 7) || w[r[0]] == 0 || r[0] <= ahead) return i + 1;
            long cut = sum * w[r[0]] / all;
            if (r[1] != cut && r[1] != cut + 1) return i + 1;
            ahead = r[0];
            got += r[1];
        }
        return got == sum ? 0 : rows.size();
    }

    // ---- ring
    int ask(int o, int sum) {
        if (!in(o, 0, 7) || !in(sum, 0, 9999)) return BAD;
        int was = s.asks[o];
        s.asks[o] = sum;
        return was;
    }

    long gets(int[] w, int set, int o, int p) {
        long all = 0, v = 0;
        for (int i = 0; i < 8; i++) {
            all += w[i];
            if ((set >> i & 1) == 1) v += w[i];
        }
        return p * v * w[o] / (all * all);
    }

    int ring(int m, int p) {
        if (!month(m) || !in(p, 0, 99999)) return BAD;
        int[] w = new int[8];
        for (int o = 0; o < 8; o++) w[o] = weight(o, m, s.now, 0);
        int best = NONE, size = -1;
        for (int set = 255; set >= 0; set--) {
            boolean ok = true;
            for (int o = 0; o < 8; o++) {
                boolean is = (set >> o & 1) == 1;
                if (w[o] == 0) ok &= !is;
                else if (is) ok &= gets(w, set, o, p) >= s.asks[o];
                else ok &= gets(w, set | 1 << o, o, p) <= s.asks[o];
            }
            if (ok && Integer.bitCount(set) >= size) {
                size = Integer.bitCount(set);
                best = set;
            }
        }
        return best;
    }

    int machine(int maker, int digits) {
        if (!in(maker, 0, 5) || digits < 0 || !String.valueOf(digits).matches("[0-3]{1,6}")) return BAD;
        int was = s.machines[maker];
        s.machines[maker] = digits;
        return was;
    }

    int crossed(int o, int maker, boolean is) {
        if (!in(o, 0, 7) || !in(maker, 0, 5)) return BAD;
        boolean was = s.crossed[o][maker];
        s.crossed[o][maker] = is;
        return was ? 1 : 0;
    }

    int holes(int w, int k, boolean twice) {
        if (!where(w) || !month(k)) return BAD;
        int maker = w / 10000, m = w % 1000, does = 0, bits = 0;
        String digits = String.format("%06d", s.machines[maker]);
        for (int i = 0; i < s.musts.size(); i++) {
            int d = digits.charAt(5 - i) - '0';
            does |= s.musts.get(i).get(d < s.musts.get(i).size() ? d : 0);
        }
        for (int c = 0; c < s.claims.size(); c++) {
            ClaimOf q = s.claims.get(c);
            if (q.land != w / 1000 % 10 || !lives(c, m, k) || (q.steps & does) != q.steps) continue;
            boolean in = isIn(q.owner, m), x = s.crossed[q.owner][maker];
            if (twice ? in && x : !in && !x) bits |= 1 << c;
        }
        return bits;
    }

    int like(int sum, int claims) {
        if (!in(sum, 1, 9999) || !in(claims, 1, 99)) return BAD;
        if (s.likes.size() == 8) return FULL;
        s.likes.add(new Like(sum, claims));
        return s.likes.size();
    }

    int fair(int o, int m, int way) {
        if (!in(o, 0, 7) || !month(m) || !in(way, 0, 4)) return BAD;
        if (way > 2) {
            int a = fair(o, m, 0), b = fair(o, m, 1), c = fair(o, m, 2);
            if (a < 0 || b < 0 || c < 0) return STATE;
            return way == 3 ? Math.min(a, Math.min(b, c)) : Math.max(a, Math.max(b, c));
        }
        long top = 0, bottom = 0;
        if (way == 0) {
            for (Like l : s.likes) {
                top += l.sum;
                bottom += l.claims;
            }
            top *= weight(o, m, s.now, 0);
        } else {
            int how = way == 2 ? 2 : 0;
            top = sumOf(m, s.now) * weight(o, m, s.now, how);
            for (int i = 0; i < 8; i++) bottom += weight(i, m, s.now, how);
        }
        return bottom == 0 ? STATE : (int) (top / bottom);
    }

    // ---- host
    int sheet(int i, int sort, int n) {
        if (!in(i, 0, 3) || !in(sort, -1, 3)) return BAD;
        if (sort < 0) {
            sheets[i] = null;
            return 1;
        }
        if (n > 40) return BAD;
        if (n < 0) return -14;
        sheets[i] = switch (sort) { case 0 -> new byte[n]; case 1 -> new short[n]; case 2 -> new int[n]; default -> new long[n]; };
        return 1;
    }

    static int sortOf(Object row) {
        return row instanceof byte[] ? 0 : row instanceof short[] ? 1 : row instanceof int[] ? 2 : row instanceof long[] ? 3 : -1;
    }

    static int sizeOf(Object row) { return row == null ? 0 : java.lang.reflect.Array.getLength(row); }

    int put(int i, int at, int v) {
        if (!in(i, 0, 3)) return BAD;
        if (sheets[i] == null) return -11;
        if (!in(at, 0, sizeOf(sheets[i]) - 1)) return -12;
        if (sheets[i] instanceof byte[] b) b[at] = (byte) v;
        if (sheets[i] instanceof short[] b) b[at] = (short) v;
        if (sheets[i] instanceof int[] b) b[at] = v;
        if (sheets[i] instanceof long[] b) b[at] = v;
        return 1;
    }

    int item(int i, int sort, int at) {
        if (!in(i, 0, 3) || !in(sort, 0, 3)) return BAD;
        if (sheets[i] == null) return -11;
        if (sortOf(sheets[i]) != sort) return -13;
        if (!in(at, 0, sizeOf(sheets[i]) - 1)) return -12;
        return ((Number) java.lang.reflect.Array.get(sheets[i], at)).intValue();
    }

    int comes(int i, int at, int n) {
        if (!in(i, 0, 3) || !in(n, 0, 6)) return BAD;
        if (sheets[i] == null) return -11;
        if (!(sheets[i] instanceof long[] all)) return -13;
        int came = 0;
        for (long j = at; j < (long) at + n; j++) {
            if (j < 0 || j >= all.length) return -12;
            String d = all[(int) j] < 0 ? "999999999999999" : String.format("%013d", all[(int) j]);
            int z = d.length();
            if (z > 13) continue;
            int got = claim(Integer.parseInt(d.substring(10)), Integer.parseInt(d.substring(6, 10)), Integer.parseInt(d.substring(3, 6) + d.substring(0, 3)), -1);
            if (got == FULL) return FULL;
            if (got >= 0) came++;
        }
        return came;
    }

    boolean isThing(int what, int n) {
        return switch (what) { case 0 -> isClaim(n); case 1 -> in(n, 0, s.boxes.size() - 1); case 2 -> in(n, 0, s.leaves.size() - 1); default -> in(n, 0, 3); };
    }

    int shelf(int i, int what, int n) {
        if (!in(i, 0, 3) || !in(what, 0, 4) || what < 4 && !isThing(what, n)) return BAD;
        shelfWhat[i] = what == 3 && sheets[n] == null ? 4 : what;
        shelfN[i] = n;
        return 1;
    }

    static class A {
        int a, n;
        List<Integer> t;
        void ran(int body) { if (t.size() < 30) t.add(body); }
        int reads(int x) { ran(10); return x + a; }
        int counts(int x) { ran(11); return reads(x) * 2; }
        int pays(int x) { ran(12); return x / (a - n); }
        int ends(int x) { ran(13); return counts(x) ^ n; }
    }
    static class ANeeded extends A {
        @Override int counts(int x) { ran(20); return super.counts(x) + 5; }
        @Override int ends(int x) { ran(21); return super.ends(x) * 3; }
    }
    static class ASworn extends A {
        @Override int reads(int x) { ran(30); return super.reads(x) - 1; }
    }
    static class AKin extends ANeeded {
        @Override int pays(int x) { ran(40); return super.pays(x + 4); }
        @Override int counts(int x) { ran(41); return super.counts(x) - reads(2); }
    }
    static class ABox extends A {
        @Override int ends(int x) { ran(50); return super.ends(x) + pays(a + 1); }
    }
    static class ALeave extends A {
        @Override int reads(int x) { ran(60); return super.reads(x) ^ 9; }
    }
    static class AFavoured extends ALeave {
        @Override int counts(int x) { ran(70); return 0 - super.counts(x); }
        @Override int pays(int x) { ran(71); return super.pays(x) + x; }
    }

    A on(int shelf) {
        int what = shelfWhat[shelf], n = shelfN[shelf];
        if (what > 2 || !isThing(what, n)) return null;
        A a;
        if (what == 0) {
            ClaimOf q = s.claims.get(n);
            a = isNeeded(n) ? q.kin >= 0 ? new AKin() : new ANeeded() : s.sworn.contains(n) ? new ASworn() : new A();
            a.a = q.worth;
        } else if (what == 1) {
            a = new ABox();
            a.a = s.boxes.get(n).n;
        } else {
            a = s.leaves.get(n).favoured ? new AFavoured() : new ALeave();
            a.a = s.leaves.get(n).hundredths;
        }
        a.n = n;
        a.t = trace;
        return a;
    }

    int taken(int shelf, int as) {
        if (!in(shelf, 0, 3) || !in(as, 0, 6) && !in(as, 10, 13)) return BAD;
        if (shelfWhat[shelf] == 3) {
            Object row = sheets[shelfN[shelf]];
            if (row == null) return -11;
            return as - 10 == sortOf(row) ? sizeOf(row) : -13;
        }
        A a = on(shelf);
        if (a == null) return -11;
        boolean is = switch (as) {
            case 0 -> true; case 1 -> a instanceof ANeeded; case 2 -> a instanceof ASworn; case 3 -> a instanceof AKin;
            case 4 -> a instanceof ABox; case 5 -> a instanceof ALeave; case 6 -> a instanceof AFavoured; default -> false;
        };
        return is ? a.n : -13;
    }

    int act(int shelf, int act, int x) {
        trace.clear();
        if (!in(shelf, 0, 3) || !in(act, 0, 3)) return 0;
        A a = on(shelf);
        if (a == null) return 0;
        try {
            return switch (act) { case 0 -> a.reads(x); case 1 -> a.counts(x); case 2 -> a.pays(x); default -> a.ends(x); };
        } catch (ArithmeticException e) {
            return -15;
        }
    }

    int trace(int i) { return in(i, 0, trace.size() - 1) ? trace.get(i) : NONE; }

    int many(int what) {
        int machines = 1, needed = 0;
        for (List<Integer> m : s.musts) machines *= m.size();
        for (int c = 0; c < s.claims.size(); c++) if (isNeeded(c)) needed++;
        int[] all = {s.now, s.claims.size(), s.words.size(), s.musts.size(), machines, s.versions.size(), s.boxes.size(), s.leaves.size(),
            s.paid.size(), s.drawn.size(), rows.size(), s.likes.size(), tape.length(), trace.size(), needed};
        return in(what, 0, 14) ? all[what] : BAD;
    }

    int keep() {
        kept = s.copy();
        return 1;
    }

    int again() {
        if (kept == null) return NONE;
        s = kept.copy();
        known.clear();
        return 1;
    }
}
