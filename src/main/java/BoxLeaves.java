/** A pool of patents: claims and courts, musts, terms, boxes and sums. The document's numbered passages say what the words mean. */
public final class BoxLeaves {
    public static final int BAD = -1, FULL = -2, NONE = -3, STATE = -4;

    private static final int NOTHING = -11, OUTSIDE = -12, OTHER = -13, BELOW = -14, BY_ZERO = -15;
    private static final int NO_ROW = -9, NO_NUMBER = -9;
    private static final int MONTHS = 240, LANDS = 4, OWNERS = 8, MAKERS = 6, STEPS_END = 4096;
    private static final int CLAIMS = 16, WORDS = 20, JOINS = 24, MUSTS = 6, WAYS = 4, VERSIONS = 6;
    private static final int BOXES = 24, LEAVES = 8, PAYMENTS = 16, DRAWS = 12, LIKES = 8;
    private static final int SHEETS = 4, SHELVES = 4, ITEMS = 40, TRACED = 30;
    private static final int TAPE = 220, LINES = 9, OVERS = 3, OPEN = 4;

    private static final int HEADS = 0, KIN = 1, WORTH = 2;
    private static final int SHARE_LINE = 0, RATE_LINE = 1, MOST_LINE = 2, LAND_LINE = 3, INTEREST_LINE = 4, FREE_LINE = 5;
    // What a free LINE is kept as: these steps over a row of bits; numbers from 0 on are comparisons.
    private static final int NOT_STEP = -1, AND_STEP = -2, OR_STEP = -3, FAVOURED_STEP = -4;

    private static final int A_CLAIM = 0, A_NEEDED = 1, A_SWORN = 2, A_KIN = 3, A_BOX = 4, A_LEAVE = 5, A_FAVOURED = 6, A_ROW = 10;
    private static final int HOLDS_CLAIM = 0, HOLDS_BOXES = 1, HOLDS_LEAVE = 2, HOLDS_ROW = 3, HOLDS_NOTHING = 4;

    private final Pool pool = new Pool();
    private final Pool stored = new Pool();
    private boolean isStored;
    private final Tape tape = new Tape();
    private final Rows rows = new Rows();
    private final Sheets sheets = new Sheets();
    private final Acts acts = new Acts();
    private final int[] shelfWhat = new int[] {HOLDS_NOTHING, HOLDS_NOTHING, HOLDS_NOTHING, HOLDS_NOTHING};
    private final int[] shelfNumber = new int[SHELVES];

    public BoxLeaves() {
    }

    // ---- months, claims.

    public int months(int n) {
        if (n < 1 || n > 60) return BAD;
        if (pool.rights.now + n >= MONTHS) return STATE;
        pool.rights.now += n;
        return pool.rights.now;
    }

    public int claim(int who, int steps, int span, int kin) {
        return pool.rights.addClaim(who, steps, span, kin);
    }

    public int word(int claim, boolean dead) {
        return pool.rights.addWord(claim, dead);
    }

    public int alive(int claim, int month, int k) {
        if (!pool.rights.hasClaim(claim) || !isMonth(month) || !isMonth(k)) return BAD;
        return pool.rights.livesAt(claim, month, k) ? 1 : 0;
    }

    public int join(int owner, boolean in) {
        return pool.rights.addJoin(owner, in);
    }

    public int members(int month) {
        if (!isMonth(month)) return BAD;
        return pool.rights.insiders(month);
    }

    // ---- musts, needs.

    public int must(int steps) {
        return pool.needs.addMust(steps);
    }

    public int way(int must, int steps) {
        return pool.needs.addWay(must, steps);
    }

    public int needed(int claim) {
        if (!pool.rights.hasClaim(claim)) return BAD;
        return pool.isNeeded(claim) ? 1 : 0;
    }

    public int round(int claim) {
        if (!pool.rights.hasClaim(claim)) return BAD;
        return pool.needs.wayAround(pool.rights.steps[claim]);
    }

    public int swear(int claim, int what) {
        if (!pool.rights.hasClaim(claim) || what < 0 || what > 1) return BAD;
        return what == 0 ? pool.rights.swearTo(claim) : pool.rights.lookAt(claim);
    }

    public int among(boolean most) {
        return pool.amongSworn(most);
    }

    // ---- terms.

    public int feed(long eight, int n) {
        return tape.takeBytes(eight, n);
    }

    public int read() {
        int fault = tape.parse();
        tape.length = 0;
        if (fault >= 0) return -100 - fault;
        return pool.addTerms(tape.text);
    }

    public int version(int v, int what) {
        Terms terms = pool.termsNumbered(v);
        return terms == null ? BAD : terms.fact(what);
    }

    // ---- boxes, sums.

    public int boxes(int where, int n) {
        if (!isWhere(where) || where % 1000 > pool.rights.now) return BAD;
        return pool.trade.addBoxes(where, n, pool.rights.now);
    }

    public int count(int where, int k) {
        if (!isWhere(where) || !isMonth(k)) return BAD;
        return pool.trade.countAt(where, k);
    }

    public int leave(int maker, int hundredths, int from, int till, boolean favoured) {
        return pool.trade.addLeave(maker, hundredths, from, till, favoured);
    }

    public int part(int maker, int month) {
        if (!isMaker(maker) || !isMonth(month)) return BAD;
        return pool.trade.partOf(maker, month);
    }

    public int owe(int maker, int month, int k) {
        if (!isMaker(maker) || !isMonth(month) || !isMonth(k)) return BAD;
        return (int) pool.owed(maker, month, k);
    }

    public int paid(int maker, int month, int sum) {
        return pool.trade.addPayment(maker, month, sum);
    }

    public int back(int maker, int k) {
        if (!isMaker(maker) || !isMonth(k)) return BAD;
        return (int) pool.backSum(maker, k);
    }

    public int drawn(int where, int from, int to) {
        return pool.trade.addDraw(where, from, to);
    }

    public int under(int maker, int k) {
        if (!isMaker(maker) || !isMonth(k)) return BAD;
        return pool.trade.belowDrawn(maker, k);
    }

    public int sum(int month, int k) {
        if (!isMonth(month) || !isMonth(k)) return BAD;
        return (int) pool.monthSum(month, k);
    }

    public int share(int owner, int month, int k) {
        if (!isOwner(owner) || !isMonth(month) || !isMonth(k)) return BAD;
        pool.weigh(month, k);
        return (int) pool.shareOf(owner, pool.monthSum(month, k));
    }

    public int prove(int month) {
        if (!isMonth(month)) return BAD;
        rows.become(pool, month);
        return rows.size;
    }

    public int row(int i, int what) {
        return rows.fact(i, what);
    }

    public int alterRow(int i, int what, int v) {
        return rows.alter(i, what, v);
    }

    public int judge(int month) {
        if (!isMonth(month)) return BAD;
        return rows.firstWrong(pool, month);
    }

    // ---- ring, holes, fair sums.

    public int ask(int owner, int sum) {
        if (!isOwner(owner) || sum < 0 || sum > 9999) return BAD;
        int was = pool.talks.asked[owner];
        pool.talks.asked[owner] = sum;
        return was;
    }

    public int ring(int month, int sum) {
        if (!isMonth(month) || sum < 0 || sum > 99999) return BAD;
        return pool.widestRing(month, sum);
    }

    public int machine(int maker, int digits) {
        return pool.talks.setMachine(maker, digits);
    }

    public int crossed(int owner, int maker, boolean is) {
        return pool.talks.setCrossed(owner, maker, is);
    }

    public int holes(int where, int k, boolean twice) {
        if (!isWhere(where) || !isMonth(k)) return BAD;
        return pool.holeBits(where, k, twice);
    }

    public int like(int sum, int claims) {
        return pool.talks.addLike(sum, claims);
    }

    public int fair(int owner, int month, int way) {
        if (!isOwner(owner) || !isMonth(month) || way < 0 || way > 4) return BAD;
        return pool.fairSum(owner, month, way);
    }

    // ---- the host.

    public int sheet(int sheet, int sort, int n) {
        return sheets.become(sheet, sort, n);
    }

    public int put(int sheet, int i, int v) {
        return sheets.change(sheet, i, v);
    }

    public int item(int sheet, int sort, int i) {
        return sheets.itemAt(sheet, sort, i);
    }

    public int comes(int sheet, int i, int n) {
        if (!isSheet(sheet) || n < 0 || n > 6) return BAD;
        return sheets.bringClaims(sheet, i, n, pool.rights);
    }

    public int shelf(int shelf, int what, int n) {
        if (!isShelf(shelf) || !canHold(what, n)) return BAD;
        // a SHEET that is missing has no row to give, whatever it becomes later
        boolean isMissing = what == HOLDS_ROW && sheets.sortOf(n) < 0;
        shelfWhat[shelf] = isMissing ? HOLDS_NOTHING : what;
        shelfNumber[shelf] = n;
        return 1;
    }

    public int taken(int shelf, int as) {
        boolean isKind = as >= A_CLAIM && as <= A_FAVOURED;
        boolean isSort = as >= A_ROW && as < A_ROW + 4;
        if (!isShelf(shelf) || !(isKind || isSort)) return BAD;
        int kind = kindOn(shelf);
        if (kind < 0) return NOTHING;
        if (isSort) return kind == as ? sheets.sizeOf(shelfNumber[shelf]) : OTHER;
        return kind < A_ROW && isUnder(kind, as) ? shelfNumber[shelf] : OTHER;
    }

    public int act(int shelf, int act, int x) {
        acts.forget();
        if (!isShelf(shelf) || act < 0 || act > 3) return 0;
        int kind = kindOn(shelf);
        if (kind < 0 || kind >= A_ROW) return 0;
        return acts.run(kind, amountOn(shelf), shelfNumber[shelf], act, x);
    }

    public int trace(int i) {
        return acts.body(i);
    }

    public int many(int what) {
        switch (what) {
            case 0: return pool.rights.now;
            case 1: return pool.rights.claims;
            case 2: return pool.rights.words;
            case 3: return pool.needs.musts;
            case 4: return pool.needs.machines();
            case 5: return pool.versions;
            case 6: return pool.trade.boxTimes;
            case 7: return pool.trade.leaves;
            case 8: return pool.trade.payments;
            case 9: return pool.trade.draws;
            case 10: return rows.size;
            case 11: return pool.talks.likes;
            case 12: return tape.length;
            case 13: return acts.bodies;
            case 14: return pool.neededClaims();
            default: return BAD;
        }
    }

    // ---- kept.

    public int keep() {
        stored.become(pool);
        isStored = true;
        return 1;
    }

    public int again() {
        if (!isStored) return NONE;
        pool.become(stored);
        return 1;
    }

    // ---- what all classes ask of numbers.

    private static boolean isMonth(int month) {
        return month >= 0 && month < MONTHS;
    }

    private static boolean isOwner(int owner) {
        return owner >= 0 && owner < OWNERS;
    }

    private static boolean isMaker(int maker) {
        return maker >= 0 && maker < MAKERS;
    }

    private static boolean isSteps(int steps) {
        return steps > 0 && steps < STEPS_END;
    }

    private static boolean isSheet(int sheet) {
        return sheet >= 0 && sheet < SHEETS;
    }

    private static boolean isShelf(int shelf) {
        return shelf >= 0 && shelf < SHELVES;
    }

    private static boolean isWhere(int where) {
        return where >= 0 && where / 10000 < MAKERS && where / 1000 % 10 < LANDS && where % 1000 < MONTHS;
    }

    private static void copyAll(int[] from, int[] to) {
        System.arraycopy(from, 0, to, 0, Math.min(from.length, to.length));
    }

    // ---- what stands on shelves.

    private boolean canHold(int what, int n) {
        switch (what) {
            case HOLDS_CLAIM: return pool.rights.hasClaim(n);
            case HOLDS_BOXES: return n >= 0 && n < pool.trade.boxTimes;
            case HOLDS_LEAVE: return n >= 0 && n < pool.trade.leaves;
            case HOLDS_ROW: return isSheet(n);
            default: return what == HOLDS_NOTHING;
        }
    }

    /** The kind of what a shelf holds, of a row its sort and A_ROW; -1 of nothing. It is asked anew each time: claims change their kind, and again() takes things away. */
    private int kindOn(int shelf) {
        int n = shelfNumber[shelf];
        if (!canHold(shelfWhat[shelf], n)) return -1;
        switch (shelfWhat[shelf]) {
            case HOLDS_CLAIM: return pool.kindOfClaim(n);
            case HOLDS_BOXES: return A_BOX;
            case HOLDS_LEAVE: return pool.trade.isFavoured(n) ? A_FAVOURED : A_LEAVE;
            case HOLDS_ROW: return sheets.sortOf(n) < 0 ? -1 : A_ROW + sheets.sortOf(n);
            default: return -1;
        }
    }

    private int amountOn(int shelf) {
        int n = shelfNumber[shelf];
        if (!canHold(shelfWhat[shelf], n)) return 0;
        switch (shelfWhat[shelf]) {
            case HOLDS_CLAIM: return pool.rights.worth[n];
            case HOLDS_BOXES: return pool.trade.boxAmount[n];
            case HOLDS_LEAVE: return pool.trade.leaveHundredths[n];
            default: return 0;
        }
    }

    private static boolean isUnder(int kind, int as) {
        if (as == A_CLAIM || kind == as) return true;
        return kind == A_KIN && as == A_NEEDED || kind == A_FAVOURED && as == A_LEAVE;
    }

    /** Claims, what courts said of them, and who is in the pool. */
    private static final class Rights {
        int now;
        int claims;
        final int[] owner = new int[CLAIMS];
        final int[] steps = new int[CLAIMS];
        final int[] land = new int[CLAIMS];
        final int[] first = new int[CLAIMS];
        final int[] last = new int[CLAIMS];
        final int[] worth = new int[CLAIMS];
        final int[] kin = new int[CLAIMS];
        int swornBits;
        int lookedBits;
        int words;
        int deadBits;
        final int[] wordClaim = new int[WORDS];
        final int[] wordMonth = new int[WORDS];
        int joins;
        int inBits;
        final int[] joinOwner = new int[JOINS];
        final int[] joinMonth = new int[JOINS];

        boolean hasClaim(int c) {
            return c >= 0 && c < claims;
        }

        int addClaim(int who, int itsSteps, int span, int itsKin) {
            if (who < 0 || who / 100 >= OWNERS || who / 10 % 10 >= LANDS || who % 10 == 0) return BAD;
            if (!isSteps(itsSteps) || itsKin < -1 || itsKin > 7) return BAD;
            if (!isMonth(span / 1000) || !isMonth(span % 1000) || span % 1000 < span / 1000) return BAD;
            if (claims >= CLAIMS) return FULL;
            owner[claims] = who / 100;
            land[claims] = who / 10 % 10;
            worth[claims] = who % 10;
            steps[claims] = itsSteps;
            first[claims] = span / 1000;
            last[claims] = span % 1000;
            kin[claims] = itsKin;
            return claims++;
        }

        int addWord(int c, boolean dead) {
            if (!hasClaim(c)) return BAD;
            if (words >= WORDS) return FULL;
            wordClaim[words] = c;
            wordMonth[words] = now;
            deadBits = withBit(deadBits, words, dead);
            return words++;
        }

        int addJoin(int who, boolean in) {
            if (!isOwner(who)) return BAD;
            if (joins >= JOINS) return FULL;
            int was = isIn(who, now) ? 1 : 0;
            joinOwner[joins] = who;
            joinMonth[joins] = now;
            inBits = withBit(inBits, joins, in);
            joins++;
            return was;
        }

        static int withBit(int bits, int i, boolean is) {
            return is ? bits | 1 << i : bits & ~(1 << i);
        }

        boolean livesAt(int c, int month, int k) {
            if (c < 0 || c >= claims || month < first[c] || month > last[c]) return false;
            for (int w = words - 1; w >= 0; w--) {
                if (wordClaim[w] == c && wordMonth[w] <= k) return (deadBits >> w & 1) == 0;
            }
            return true;
        }

        boolean isIn(int who, int month) {
            for (int j = joins - 1; j >= 0; j--) {
                if (joinOwner[j] == who && joinMonth[j] <= month) return (inBits >> j & 1) != 0;
            }
            return false;
        }

        int insiders(int month) {
            int bits = 0;
            for (int o = 0; o < OWNERS; o++) {
                if (isIn(o, month)) bits |= 1 << o;
            }
            return bits;
        }

        boolean isSworn(int c) {
            return (swornBits >> c & 1) != 0;
        }

        boolean isLookedAt(int c) {
            return (lookedBits >> c & 1) != 0;
        }

        int swearTo(int c) {
            if (isSworn(c)) return 0;
            swornBits |= 1 << c;
            return 1;
        }

        int lookAt(int c) {
            if (!isSworn(c)) return STATE;
            if (isLookedAt(c)) return 0;
            lookedBits |= 1 << c;
            return 1;
        }

        void become(Rights o) {
            now = o.now;
            claims = o.claims;
            copyAll(o.owner, owner);
            copyAll(o.steps, steps);
            copyAll(o.land, land);
            copyAll(o.first, first);
            copyAll(o.last, last);
            copyAll(o.worth, worth);
            copyAll(o.kin, kin);
            swornBits = o.swornBits;
            lookedBits = o.lookedBits;
            words = o.words;
            deadBits = o.deadBits;
            copyAll(o.wordClaim, wordClaim);
            copyAll(o.wordMonth, wordMonth);
            joins = o.joins;
            inBits = o.inBits;
            copyAll(o.joinOwner, joinOwner);
            copyAll(o.joinMonth, joinMonth);
        }
    }

    /** Musts and the ways in which machines do them. */
    private static final class Needs {
        int musts;
        final int[] ways = new int[MUSTS];
        final int[] waySteps = new int[MUSTS * WAYS];

        int addMust(int steps) {
            if (!isSteps(steps)) return BAD;
            if (musts >= MUSTS) return FULL;
            ways[musts] = 1;
            waySteps[musts * WAYS] = steps;
            return musts++;
        }

        int addWay(int m, int steps) {
            if (m < 0 || m >= musts || !isSteps(steps)) return BAD;
            if (ways[m] >= WAYS) return FULL;
            waySteps[m * WAYS + ways[m]] = steps;
            return ways[m]++;
        }

        int machines() {
            int all = 1;
            for (int m = 0; m < musts; m++) all *= ways[m];
            return all;
        }

        /** Steps that every machine does by its musts from this one on. Ways are free of one another, so that a step is in all machines just if all ways of one must have it. */
        int stepsOfAll(int fromMust) {
            int all = 0;
            for (int m = fromMust; m < musts; m++) {
                int common = STEPS_END - 1;
                for (int w = 0; w < ways[m]; w++) common &= waySteps[m * WAYS + w];
                all |= common;
            }
            return all;
        }

        /** A way is right for the first machine sought as soon as the musts behind it can still leave a step out. */
        int wayAround(int steps) {
            if ((steps & ~stepsOfAll(0)) == 0) return NONE;
            int done = 0, digits = 0, place = 1;
            for (int m = 0; m < musts; m++) {
                int forced = done | stepsOfAll(m + 1);
                int w = 0;
                while (w < ways[m] - 1 && (steps & ~(forced | waySteps[m * WAYS + w])) == 0) w++;
                done |= waySteps[m * WAYS + w];
                digits += w * place;
                place *= 10;
            }
            return digits;
        }

        int stepsOfMachine(int digits) {
            int steps = 0, rest = digits;
            for (int m = 0; m < musts; m++) {
                int w = rest % 10 < ways[m] ? rest % 10 : 0;
                steps |= waySteps[m * WAYS + w];
                rest /= 10;
            }
            return steps;
        }

        void become(Needs o) {
            musts = o.musts;
            copyAll(o.ways, ways);
            copyAll(o.waySteps, waySteps);
        }
    }

    /** What one text says. */
    private static final class Terms {
        int from;
        int lines;
        final int[] lineSort = new int[LINES];
        final int[] lineFirst = new int[LINES];
        int how;
        int overs;
        final int[] rates = new int[OVERS + 1];
        final int[] bounds = new int[OVERS];
        int most = -1;
        final int[] pays = new int[] {100, 100, 100, 100};
        int interest;
        int codes;
        final int[] code = new int[TAPE];

        void clear() {
            from = 0;
            lines = 0;
            how = HEADS;
            overs = 0;
            rates[0] = 0;
            most = -1;
            for (int land = 0; land < LANDS; land++) pays[land] = 100;
            interest = 0;
            codes = 0;
        }

        void addLine(int sort, int firstNumber) {
            if (lines >= LINES) return;
            lineSort[lines] = sort;
            lineFirst[lines] = firstNumber;
            lines++;
        }

        void addCode(int step) {
            if (codes >= TAPE) return;
            code[codes] = step;
            codes++;
        }

        int fact(int what) {
            if (what == 0) return lines;
            if (what == 1) return from;
            if (what >= 10 && what < 10 + lines) return lineSort[what - 10];
            if (what >= 30 && what < 30 + lines) return lineFirst[what - 30];
            return BAD;
        }

        long rateOf(int count) {
            long all = 0;
            int below = 0;
            for (int i = 0; i <= overs; i++) {
                int upTo = i < overs ? Math.min(count, bounds[i]) : count;
                all += (long) (upTo - below) * rates[i];
                below = upTo;
            }
            return all;
        }

        boolean isFree(int boxes, int maker, int land, int month, boolean favoured) {
            int bits = 0;
            for (int i = 0; i < codes; i++) {
                int step = code[i];
                if (step == NOT_STEP) {
                    bits ^= 1;
                } else if (step == AND_STEP) {
                    bits = bits >> 1 & (bits | -2);
                } else if (step == OR_STEP) {
                    bits = bits >> 1 | bits & 1;
                } else if (step == FAVOURED_STEP) {
                    bits = bits << 1 | (favoured ? 1 : 0);
                } else {
                    int name = step / 3000;
                    int value = name == 0 ? boxes : name == 1 ? maker : name == 2 ? land : month;
                    bits = bits << 1 | (compares(value, step / 1000 % 3, step % 1000) ? 1 : 0);
                }
            }
            return (bits & 1) != 0;
        }

        static boolean compares(int value, int sign, int n) {
            return sign == 0 ? value < n : sign == 1 ? value == n : value > n;
        }

        void become(Terms o) {
            from = o.from;
            lines = o.lines;
            copyAll(o.lineSort, lineSort);
            copyAll(o.lineFirst, lineFirst);
            how = o.how;
            overs = o.overs;
            copyAll(o.rates, rates);
            copyAll(o.bounds, bounds);
            most = o.most;
            copyAll(o.pays, pays);
            interest = o.interest;
            codes = o.codes;
            copyAll(o.code, code);
        }
    }

    /** The tape and its reader, which takes it piece by piece: a WORD, a NUMBER or another byte. */
    private static final class Tape {
        private static final int WORD_PIECE = 0, NUMBER_PIECE = 1, BYTE_PIECE = 2, NO_PIECE = 3;

        int length;
        final int[] bytes = new int[TAPE];
        final Terms text = new Terms();
        private int piece;
        private int start;
        private int end;
        private int value;
        private int fault;

        int takeBytes(long eight, int n) {
            if (n < 1 || n > 8) return BAD;
            if (length + n > TAPE) return FULL;
            for (int i = 0; i < n; i++) bytes[length + i] = (int) (eight >> 8 * i & 255);
            length += n;
            return length;
        }

        /** The fault, or -1. */
        int parse() {
            text.clear();
            fault = -1;
            end = 0;
            goOn();
            for (int i = 0; i <= LINES && piece != NO_PIECE && fault < 0; i++) {
                if (i == LINES) fail();
                else takeLine();
            }
            return fault;
        }

        private boolean fail() {
            if (fault < 0) fault = start;
            return false;
        }

        private void goOn() {
            int i = end;
            while (i < length && bytes[i] == ' ') i++;
            start = i;
            value = 0;
            if (i >= length) {
                piece = NO_PIECE;
            } else if (bytes[i] >= 'a' && bytes[i] <= 'z') {
                piece = WORD_PIECE;
                while (i < length && bytes[i] >= 'a' && bytes[i] <= 'z') i++;
            } else if (bytes[i] >= '0' && bytes[i] <= '9') {
                piece = NUMBER_PIECE;
                for (; i < length && bytes[i] >= '0' && bytes[i] <= '9'; i++) {
                    // a longer row is refused by its length; its value may not wrap on the way
                    if (value < 1000) value = value * 10 + bytes[i] - '0';
                }
            } else {
                piece = BYTE_PIECE;
                i++;
            }
            end = i;
        }

        private boolean isWord(String w) {
            if (piece != WORD_PIECE || end - start != w.length() || end > length) return false;
            for (int i = 0; i < w.length(); i++) {
                if (bytes[start + i] != w.charAt(i)) return false;
            }
            return true;
        }

        private boolean isByte(char b) {
            return piece == BYTE_PIECE && start < length && bytes[start] == b;
        }

        private boolean takeWord(String w) {
            if (!isWord(w)) return fail();
            goOn();
            return true;
        }

        /** Its value, or -1 behind a fault. */
        private int takeNumber(int least, int greatest) {
            if (piece != NUMBER_PIECE || end - start > 3 || value < least || value > greatest) {
                fail();
                return -1;
            }
            int n = value;
            goOn();
            return n;
        }

        private int sortOfLine() {
            if (isWord("share")) return SHARE_LINE;
            if (isWord("rate")) return RATE_LINE;
            if (isWord("most")) return MOST_LINE;
            if (isWord("land")) return LAND_LINE;
            if (isWord("interest")) return INTEREST_LINE;
            return isWord("free") ? FREE_LINE : -1;
        }

        private void takeLine() {
            int sort = sortOfLine();
            if (sort < 0) {
                fail();
                return;
            }
            goOn();
            int first = NO_NUMBER;
            switch (sort) {
                case SHARE_LINE:
                    first = takeHow();
                    break;
                case RATE_LINE:
                    first = takeRate();
                    break;
                case MOST_LINE:
                    first = takeNumber(0, 999);
                    text.most = first;
                    break;
                case LAND_LINE:
                    first = takeLand();
                    break;
                case INTEREST_LINE:
                    first = takeNumber(0, 999);
                    text.interest = first;
                    break;
                default:
                    // any free LINE is enough, so that all of them become one condition
                    boolean isFirst = text.codes == 0;
                    if (takeWord("if") && takeCondition(0) && !isFirst) text.addCode(OR_STEP);
            }
            if (fault >= 0) return;
            if (!isByte(';')) {
                fail();
                return;
            }
            goOn();
            text.addLine(sort, first);
        }

        private int takeHow() {
            if (!takeWord("by")) return -1;
            text.how = isWord("heads") ? HEADS : isWord("kin") ? KIN : isWord("worth") ? WORTH : -1;
            if (text.how < 0) fail();
            else goOn();
            return text.how;
        }

        private int takeRate() {
            text.overs = 0;
            text.rates[0] = takeNumber(0, 999);
            for (int i = 0; i <= OVERS && fault < 0 && isWord("over"); i++) {
                if (i == OVERS) {
                    fail();
                    break;
                }
                goOn();
                text.bounds[i] = takeNumber(i == 0 ? 0 : text.bounds[i - 1] + 1, 999);
                if (fault < 0 && takeWord("rate")) text.rates[i + 1] = takeNumber(0, 999);
                text.overs = i + 1;
            }
            return text.rates[0];
        }

        private int takeLand() {
            int land = takeNumber(0, LANDS - 1);
            if (land >= 0 && takeWord("pays")) text.pays[land] = takeNumber(0, 999);
            return land;
        }

        private boolean takeCondition(int depth) {
            boolean isOpen = false;
            if (!takeOne(depth)) return false;
            for (int i = 0; i < TAPE && (isWord("and") || isWord("or")); i++) {
                boolean isAnd = isWord("and");
                if (!isAnd && isOpen) text.addCode(OR_STEP);
                if (!isAnd) isOpen = true;
                goOn();
                if (!takeOne(depth)) return false;
                if (isAnd) text.addCode(AND_STEP);
            }
            if (isOpen) text.addCode(OR_STEP);
            return true;
        }

        private boolean takeOne(int depth) {
            boolean isNot = false;
            for (int i = 0; i < TAPE && isWord("not"); i++) {
                isNot = !isNot;
                goOn();
            }
            if (isByte('(')) {
                if (depth >= OPEN) return fail();
                goOn();
                if (!takeCondition(depth + 1)) return false;
                if (!isByte(')')) return fail();
                goOn();
            } else if (isWord("favoured")) {
                text.addCode(FAVOURED_STEP);
                goOn();
            } else if (!takeComparison()) {
                return false;
            }
            if (isNot) text.addCode(NOT_STEP);
            return true;
        }

        private boolean takeComparison() {
            int name = isWord("boxes") ? 0 : isWord("maker") ? 1 : isWord("land") ? 2 : isWord("month") ? 3 : -1;
            if (name < 0) return fail();
            goOn();
            int sign = isByte('<') ? 0 : isByte('=') ? 1 : isByte('>') ? 2 : -1;
            if (sign < 0) return fail();
            goOn();
            int n = takeNumber(0, 999);
            if (n < 0) return false;
            text.addCode(name * 3000 + sign * 1000 + n);
            return true;
        }
    }

    /** Boxes told, paid for and drawn, and leaves. */
    private static final class Trade {
        int boxTimes;
        final int[] boxWhere = new int[BOXES];
        final int[] boxAmount = new int[BOXES];
        final int[] boxKnown = new int[BOXES];
        int leaves;
        int favouredBits;
        final int[] leaveMaker = new int[LEAVES];
        final int[] leaveHundredths = new int[LEAVES];
        final int[] leaveFrom = new int[LEAVES];
        final int[] leaveTill = new int[LEAVES];
        int payments;
        final int[] paidMaker = new int[PAYMENTS];
        final int[] paidMonth = new int[PAYMENTS];
        final int[] paidSum = new int[PAYMENTS];
        int draws;
        final int[] drawWhere = new int[DRAWS];
        final int[] drawFrom = new int[DRAWS];

        int addBoxes(int where, int n, int now) {
            if (n < 1 || n > 999) return BAD;
            if (boxTimes >= BOXES) return FULL;
            boxWhere[boxTimes] = where;
            boxAmount[boxTimes] = n;
            boxKnown[boxTimes] = now;
            return boxTimes++;
        }

        int countAt(int where, int k) {
            int all = 0;
            for (int b = 0; b < boxTimes; b++) {
                if (boxWhere[b] == where && boxKnown[b] <= k) all += boxAmount[b];
            }
            return all;
        }

        int addLeave(int maker, int hundredths, int from, int till, boolean favoured) {
            // of a favoured leave the hundredths don't matter, so that any number is as told
            if (!isMaker(maker) || !favoured && (hundredths < 0 || hundredths > 100)) return BAD;
            if (!isMonth(from) || !isMonth(till) || till < from) return BAD;
            if (leaves >= LEAVES) return FULL;
            leaveMaker[leaves] = maker;
            leaveHundredths[leaves] = hundredths;
            leaveFrom[leaves] = from;
            leaveTill[leaves] = till;
            favouredBits = Rights.withBit(favouredBits, leaves, favoured);
            return leaves++;
        }

        boolean isFavoured(int l) {
            return (favouredBits >> l & 1) != 0;
        }

        boolean isLeaveFor(int l, int month) {
            return leaveFrom[l] <= month && month <= leaveTill[l];
        }

        int latestLeave(int maker, int month) {
            for (int l = leaves - 1; l >= 0; l--) {
                if (leaveMaker[l] == maker && isLeaveFor(l, month)) return l;
            }
            return -1;
        }

        int partOf(int maker, int month) {
            int latest = latestLeave(maker, month);
            if (latest < 0) return 100;
            return isFavoured(latest) ? leastPart(month) : leaveHundredths[latest];
        }

        int leastPart(int month) {
            int least = 100;
            for (int l = 0; l < leaves; l++) {
                if (!isFavoured(l) && isLeaveFor(l, month)) least = Math.min(least, leaveHundredths[l]);
            }
            return least;
        }

        int addPayment(int maker, int month, int sum) {
            if (!isMaker(maker) || !isMonth(month) || sum < 0 || sum > 99999) return BAD;
            if (payments >= PAYMENTS) return FULL;
            paidMaker[payments] = maker;
            paidMonth[payments] = month;
            paidSum[payments] = sum;
            payments++;
            return payments;
        }

        int paidFor(int maker, int month) {
            int all = 0;
            for (int p = 0; p < payments; p++) {
                if (paidMaker[p] == maker && paidMonth[p] == month) all += paidSum[p];
            }
            return all;
        }

        int addDraw(int where, int from, int to) {
            if (!isWhere(where) || from < 0 || to > 9999 || to < from) return BAD;
            if (draws >= DRAWS) return FULL;
            drawWhere[draws] = where;
            drawFrom[draws] = from;
            return draws++;
        }

        int belowDrawn(int maker, int k) {
            int all = 0;
            for (int d = 0; d < draws; d++) {
                if (drawWhere[d] / 10000 == maker && isFirstDraw(d)) {
                    all += Math.max(0, greatestFrom(drawWhere[d]) - countAt(drawWhere[d], k));
                }
            }
            return all;
        }

        /** A land and month that were drawn more than once are counted but once. */
        boolean isFirstDraw(int d) {
            for (int e = 0; e < d; e++) {
                if (drawWhere[e] == drawWhere[d]) return false;
            }
            return true;
        }

        int greatestFrom(int where) {
            int greatest = 0;
            for (int d = 0; d < draws; d++) {
                if (drawWhere[d] == where) greatest = Math.max(greatest, drawFrom[d]);
            }
            return greatest;
        }

        void become(Trade o) {
            boxTimes = o.boxTimes;
            copyAll(o.boxWhere, boxWhere);
            copyAll(o.boxAmount, boxAmount);
            copyAll(o.boxKnown, boxKnown);
            leaves = o.leaves;
            favouredBits = o.favouredBits;
            copyAll(o.leaveMaker, leaveMaker);
            copyAll(o.leaveHundredths, leaveHundredths);
            copyAll(o.leaveFrom, leaveFrom);
            copyAll(o.leaveTill, leaveTill);
            payments = o.payments;
            copyAll(o.paidMaker, paidMaker);
            copyAll(o.paidMonth, paidMonth);
            copyAll(o.paidSum, paidSum);
            draws = o.draws;
            copyAll(o.drawWhere, drawWhere);
            copyAll(o.drawFrom, drawFrom);
        }
    }

    /** What owners ask for, makers' machines, who has crossed with whom, and likes. */
    private static final class Talks {
        final int[] asked = new int[OWNERS];
        final int[] machineOf = new int[MAKERS];
        final int[] crossedBits = new int[OWNERS];
        int likes;
        int likeSum;
        int likeClaims;

        int setMachine(int maker, int digits) {
            if (!isMaker(maker) || digits < 0 || digits > 333333) return BAD;
            int rest = digits;
            for (int i = 0; i < MUSTS; i++) {
                if (rest % 10 > 3) return BAD;
                rest /= 10;
            }
            int was = machineOf[maker];
            machineOf[maker] = digits;
            return was;
        }

        boolean hasCrossed(int owner, int maker) {
            return (crossedBits[owner] >> maker & 1) != 0;
        }

        int setCrossed(int owner, int maker, boolean is) {
            if (!isOwner(owner) || !isMaker(maker)) return BAD;
            int was = hasCrossed(owner, maker) ? 1 : 0;
            crossedBits[owner] = Rights.withBit(crossedBits[owner], maker, is);
            return was;
        }

        int addLike(int sum, int claims) {
            if (sum < 1 || sum > 9999 || claims < 1 || claims > 99) return BAD;
            if (likes >= LIKES) return FULL;
            likeSum += sum;
            likeClaims += claims;
            likes++;
            return likes;
        }

        void become(Talks o) {
            copyAll(o.asked, asked);
            copyAll(o.machineOf, machineOf);
            copyAll(o.crossedBits, crossedBits);
            likes = o.likes;
            likeSum = o.likeSum;
            likeClaims = o.likeClaims;
        }
    }

    /** All that is kept, and the sums that need more than one part of it. */
    private static final class Pool {
        final Rights rights = new Rights();
        final Needs needs = new Needs();
        final Trade trade = new Trade();
        final Talks talks = new Talks();
        int versions;
        private final Terms[] terms = new Terms[VERSIONS];
        private final Terms noTerms = new Terms();
        final int[] weights = new int[OWNERS];
        int allWeights;

        Pool() {
            for (int v = 0; v < VERSIONS; v++) terms[v] = new Terms();
        }

        boolean isNeeded(int c) {
            return rights.hasClaim(c) && (rights.steps[c] & ~needs.stepsOfAll(0)) == 0;
        }

        int neededClaims() {
            int all = 0;
            for (int c = 0; c < rights.claims; c++) {
                if (isNeeded(c)) all++;
            }
            return all;
        }

        int kindOfClaim(int c) {
            if (isNeeded(c)) return rights.kin[c] >= 0 ? A_KIN : A_NEEDED;
            return rights.isSworn(c) ? A_SWORN : A_CLAIM;
        }

        int amongSworn(boolean most) {
            int all = 0;
            for (int c = 0; c < rights.claims; c++) {
                if (!rights.isSworn(c)) continue;
                if (rights.isLookedAt(c) ? isNeeded(c) : most) all++;
            }
            return all;
        }

        int addTerms(Terms text) {
            if (versions >= VERSIONS) return FULL;
            Terms slot = terms[versions];
            if (slot == null) return FULL;
            slot.become(text);
            slot.from = rights.now;
            return versions++;
        }

        Terms termsNumbered(int v) {
            return v >= 0 && v < versions ? terms[v] : null;
        }

        Terms termsOf(int month) {
            for (int v = versions - 1; v >= 0; v--) {
                Terms t = terms[v];
                if (t != null && t.from <= month) return t;
            }
            return noTerms;
        }

        boolean isCovered(int land, int month, int k) {
            int forced = needs.stepsOfAll(0);
            for (int c = 0; c < rights.claims; c++) {
                if (rights.land[c] != land || (rights.steps[c] & ~forced) != 0) continue;
                if (rights.livesAt(c, month, k) && rights.isIn(rights.owner[c], month)) return true;
            }
            return false;
        }

        long landSum(Terms t, int where, int k) {
            int maker = where / 10000, land = where / 1000 % 10, month = where % 1000;
            int count = trade.countAt(where, k);
            if (count == 0 || !isCovered(land, month, k)) return 0;
            int latest = trade.latestLeave(maker, month);
            if (t.isFree(count, maker, land, month, latest >= 0 && trade.isFavoured(latest))) return 0;
            return t.rateOf(count) * t.pays[land] / 100;
        }

        long owed(int maker, int month, int k) {
            Terms t = termsOf(month);
            long all = 0;
            for (int land = 0; land < LANDS; land++) all += landSum(t, maker * 10000 + land * 1000 + month, k);
            all = all * trade.partOf(maker, month) / 100;
            return t.most >= 0 ? Math.min(all, t.most) : all;
        }

        long backSum(int maker, int k) {
            long all = 0;
            for (int month = 0; month < k; month++) {
                long open = Math.max(0, owed(maker, month, k) - trade.paidFor(maker, month));
                all += open + open * termsOf(month).interest * (k - month) / 100;
            }
            return Math.min(all, 2000000000L);
        }

        long monthSum(int month, int k) {
            long all = 0;
            for (int maker = 0; maker < MAKERS; maker++) all += owed(maker, month, k);
            return all;
        }

        int weightOf(int owner, int month, int k, int how) {
            int all = 0, kins = 0;
            for (int c = 0; c < rights.claims; c++) {
                if (rights.owner[c] != owner || !rights.livesAt(c, month, k) || !isNeeded(c)) continue;
                if (how == WORTH) all += rights.worth[c];
                else if (how == HEADS || rights.kin[c] < 0) all++;
                else kins |= 1 << rights.kin[c];
            }
            return all + Integer.bitCount(kins);
        }

        void weigh(int month, int k) {
            int how = termsOf(month).how;
            allWeights = 0;
            for (int o = 0; o < OWNERS; o++) {
                weights[o] = rights.isIn(o, month) ? weightOf(o, month, k, how) : 0;
                allWeights += weights[o];
            }
        }

        void weighAllByHeads(int month) {
            allWeights = 0;
            for (int o = 0; o < OWNERS; o++) {
                weights[o] = weightOf(o, month, rights.now, HEADS);
                allWeights += weights[o];
            }
        }

        /** Of a sum, behind weigh(): the part of an owner, cut. */
        long cutPart(int owner, long sum) {
            return allWeights == 0 ? 0 : sum * weights[owner] / allWeights;
        }

        long shareOf(int owner, long sum) {
            if (allWeights == 0 || weights[owner] == 0) return 0;
            long left = sum;
            int ahead = 0;
            for (int o = 0; o < OWNERS; o++) {
                left -= cutPart(o, sum);
                if (o < owner && weights[o] > 0) ahead++;
            }
            return cutPart(owner, sum) + (ahead < left ? 1 : 0);
        }

        int widestRing(int month, int sum) {
            weighAllByHeads(month);
            int best = NONE;
            for (int set = 0; set < 1 << OWNERS; set++) {
                boolean isWider = best < 0 || Integer.bitCount(set) > Integer.bitCount(best);
                if (isWider && holdsTogether(set, sum)) best = set;
            }
            return best;
        }

        boolean holdsTogether(int set, int sum) {
            int together = 0;
            for (int o = 0; o < OWNERS; o++) {
                if ((set >> o & 1) == 0) continue;
                if (weights[o] == 0) return false;
                together += weights[o];
            }
            for (int o = 0; o < OWNERS; o++) {
                if (weights[o] == 0) continue;
                boolean isMember = (set >> o & 1) != 0;
                long gets = ringPart(o, isMember ? together : together + weights[o], sum);
                if (isMember ? gets < talks.asked[o] : gets > talks.asked[o]) return false;
            }
            return true;
        }

        long ringPart(int owner, int together, int sum) {
            if (allWeights == 0) return 0;
            return (long) sum * together * weights[owner] / ((long) allWeights * allWeights);
        }

        int holeBits(int where, int k, boolean twice) {
            int maker = where / 10000, land = where / 1000 % 10, month = where % 1000;
            int does = needs.stepsOfMachine(talks.machineOf[maker]);
            int bits = 0;
            for (int c = 0; c < rights.claims; c++) {
                if (rights.land[c] != land || (rights.steps[c] & ~does) != 0 || !rights.livesAt(c, month, k)) continue;
                int owner = rights.owner[c];
                if (rights.isIn(owner, month) == twice && talks.hasCrossed(owner, maker) == twice) bits |= 1 << c;
            }
            return bits;
        }

        int fairSum(int owner, int month, int way) {
            if (way < 3) return (int) fairBy(owner, month, way);
            long least = 0, most = 0;
            for (int w = 0; w < 3; w++) {
                long sum = fairBy(owner, month, w);
                if (sum < 0) return STATE;
                least = w == 0 ? sum : Math.min(least, sum);
                most = Math.max(most, sum);
            }
            return (int) (way == 3 ? least : most);
        }

        long fairBy(int owner, int month, int way) {
            int how = way == 2 ? WORTH : HEADS;
            long own = weightOf(owner, month, rights.now, how);
            if (way == 0) return talks.likeClaims == 0 ? STATE : talks.likeSum * own / talks.likeClaims;
            long all = 0;
            for (int o = 0; o < OWNERS; o++) all += weightOf(o, month, rights.now, how);
            return all == 0 ? STATE : monthSum(month, rights.now) * own / all;
        }

        void become(Pool o) {
            rights.become(o.rights);
            needs.become(o.needs);
            trade.become(o.trade);
            talks.become(o.talks);
            versions = o.versions;
            for (int v = 0; v < VERSIONS; v++) {
                Terms mine = terms[v], other = o.terms[v];
                if (mine != null && other != null) mine.become(other);
            }
        }
    }

    /** The rows that are proved, and their reader. */
    private static final class Rows {
        int size;
        final int[] owners = new int[OWNERS];
        final int[] sums = new int[OWNERS];

        void become(Pool pool, int month) {
            pool.weigh(month, pool.rights.now);
            long all = pool.monthSum(month, pool.rights.now);
            size = 0;
            for (int o = 0; o < OWNERS; o++) {
                if (pool.weights[o] == 0) continue;
                owners[size] = o;
                sums[size] = (int) pool.shareOf(o, all);
                size++;
            }
        }

        boolean has(int i, int what) {
            return i >= 0 && i < size && (what == 0 || what == 1);
        }

        int fact(int i, int what) {
            if (!has(i, what)) return NO_ROW;
            return what == 0 ? owners[i] : sums[i];
        }

        int alter(int i, int what, int v) {
            if (!has(i, what)) return NO_ROW;
            int was = fact(i, what);
            if (what == 0) owners[i] = v;
            else sums[i] = v;
            return was;
        }

        int firstWrong(Pool pool, int month) {
            pool.weigh(month, pool.rights.now);
            long all = pool.monthSum(month, pool.rights.now);
            if (size == 0) return all == 0 || pool.allWeights == 0 ? 0 : 1;
            long together = 0;
            for (int i = 0; i < size; i++) {
                if (!isRight(i, pool, all)) return i + 1;
                together += sums[i];
            }
            return together == all ? 0 : size;
        }

        boolean isRight(int i, Pool pool, long all) {
            if (!isOwner(owners[i]) || pool.weights[owners[i]] == 0) return false;
            if (i > 0 && owners[i] <= owners[i - 1]) return false;
            long part = pool.cutPart(owners[i], all);
            return sums[i] == part || sums[i] == part + 1;
        }
    }

    /** Rows of numbers of one sort; each item is held as a long that its sort can hold. */
    private static final class Sheets {
        final int[] sorts = new int[] {-1, -1, -1, -1};
        final int[] sizes = new int[SHEETS];
        final long[][] items = new long[SHEETS][ITEMS];

        int sortOf(int s) {
            return isSheet(s) ? sorts[s] : -1;
        }

        int sizeOf(int s) {
            return isSheet(s) ? sizes[s] : 0;
        }

        int become(int s, int sort, int n) {
            if (!isSheet(s) || sort < -1 || sort > 3 || sort >= 0 && n > ITEMS) return BAD;
            if (sort >= 0 && n < 0) return BELOW;
            sorts[s] = sort;
            sizes[s] = sort < 0 ? 0 : n;
            for (int i = 0; i < ITEMS; i++) items[s][i] = 0;
            return 1;
        }

        int change(int s, int i, int v) {
            if (!isSheet(s)) return BAD;
            if (sorts[s] < 0) return NOTHING;
            if (i < 0 || i >= sizes[s]) return OUTSIDE;
            items[s][i] = narrowed(sorts[s], v);
            return 1;
        }

        static long narrowed(int sort, int v) {
            return sort == 0 ? (byte) v : sort == 1 ? (short) v : v;
        }

        int itemAt(int s, int sort, int i) {
            if (!isSheet(s) || sort < 0 || sort > 3) return BAD;
            if (sorts[s] < 0) return NOTHING;
            if (sorts[s] != sort) return OTHER;
            if (i < 0 || i >= sizes[s]) return OUTSIDE;
            return (int) items[s][i];
        }

        int bringClaims(int s, int from, int n, Rights rights) {
            if (!isSheet(s)) return BAD;
            if (sorts[s] < 0) return NOTHING;
            if (sorts[s] != 3) return OTHER;
            int came = 0;
            for (int j = 0; j < n; j++) {
                if (from < 0 || from >= sizes[s] - j) return OUTSIDE;
                int number = bringClaim(items[s][from + j], rights);
                if (number == FULL) return FULL;
                if (number >= 0) came++;
            }
            return came;
        }

        static int bringClaim(long told, Rights rights) {
            if (told < 0 || told / 10000000000L >= MONTHS) return BAD;
            int span = (int) (told / 10000000 % 1000) * 1000 + (int) (told / 10000000000L);
            return rights.addClaim((int) (told % 1000), (int) (told / 1000 % 10000), span, -1);
        }
    }

    /** Acts of claims by their kinds. A body that calls the one above it begins ahead of it, so that bodies are told from the kind itself upward, and their sums are made on the way back. */
    private static final class Acts {
        int bodies;
        private final int[] begun = new int[TRACED];
        private int kind;
        private int a;
        private int n;
        private boolean isByZero;

        void forget() {
            bodies = 0;
        }

        int body(int i) {
            return i >= 0 && i < bodies ? begun[i] : NONE;
        }

        int run(int itsKind, int itsAmount, int itsNumber, int which, int x) {
            kind = itsKind;
            a = itsAmount;
            n = itsNumber;
            isByZero = false;
            int answer = which == 0 ? reads(x) : which == 1 ? counts(x) : which == 2 ? pays(x) : ends(x);
            return isByZero ? BY_ZERO : answer;
        }

        private void begin(int body) {
            if (bodies >= TRACED) return;
            begun[bodies] = body;
            bodies++;
        }

        private boolean isNeededKind() {
            return kind == A_NEEDED || kind == A_KIN;
        }

        private int reads(int x) {
            boolean isLeave = kind == A_LEAVE || kind == A_FAVOURED;
            if (kind == A_SWORN) begin(30);
            if (isLeave) begin(60);
            begin(10);
            int v = x + a;
            if (kind == A_SWORN) v--;
            if (isLeave) v ^= 9;
            return v;
        }

        private int counts(int x) {
            if (kind == A_KIN) begin(41);
            if (isNeededKind()) begin(20);
            if (kind == A_FAVOURED) begin(70);
            begin(11);
            int v = reads(x) * 2;
            if (isNeededKind()) v += 5;
            if (kind == A_KIN) v -= reads(2);
            if (kind == A_FAVOURED) v = 0 - v;
            return v;
        }

        private int pays(int x) {
            if (kind == A_KIN) begin(40);
            if (kind == A_FAVOURED) begin(71);
            begin(12);
            if (a == n) {
                isByZero = true;
                return 0;
            }
            int v = (kind == A_KIN ? x + 4 : x) / (a - n);
            return kind == A_FAVOURED ? v + x : v;
        }

        private int ends(int x) {
            if (isNeededKind()) begin(21);
            if (kind == A_BOX) begin(50);
            begin(13);
            int v = counts(x) ^ n;
            if (isNeededKind()) v *= 3;
            if (kind == A_BOX) v += pays(a + 1);
            return v;
        }
    }
}
