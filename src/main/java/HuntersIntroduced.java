/** A forest with ten deer, and up to six hunters who must be introduced before they may shoot. */
public final class HuntersIntroduced {
    public static final int NONE = -1, BAD = -2, STATE = -3, FULL = -4;
    public static final long NO = -4611686018427387904L;

    private static final int NO_HUNTER = -5, NO_DEER = -6, NOT_SO = -7;
    private static final int MISSING = -11, OUTSIDE = -12, UNLIKE = -13, BELOW = -14;
    private static final int NOTHING_SAID = -1000, NOTHING_TOLD = -5000, NOT_TELLABLE = -7000;
    private static final int FAULTY = -100;

    private static final int DEER = 10, HUNTERS = 6, TEXTS = 6, TAPE = 160, OPEN = 5;
    private static final int SHEETS = 4, ROW = 40;
    private static final int HIGHEST = 99, LAST_DAY = 999, ALL_DEER = 1023;
    private static final int LAST_SEED = 99999, MOST_LOT_SHOTS = 60, ODDS_SHOTS = 20, MOST_SEEDS = 40;

    private static final int HONOURS_PART = 0, HITS_PART = 1, WILLS_PART = 2, PARTS = 3;
    private static final int HUNTER = 0, KEEPER = 1, SNOB = 2, CLERK = 3, MARKSMAN = 4, POACHER = 5, KINDS = 6;
    private static final int MORES = 10;
    private static final int GONE = 0, MISSED = 1, HIT = 2, POACHED = 3;
    private static final int BYTES = 0, SHORTS = 1, INTS = 2;

    private static final String FIRST_TEXT = "honours 3 ; hits honour ; wills 1 ;";

    private final Forest truth = new Forest();
    private final Forest thought = new Forest();
    private final Forest kept = new Forest();
    private boolean isKept = false;
    private final Reader reader = new Reader();
    private final Rules rules = new Rules();
    private final Ways ways = new Ways();
    private final Lots lots = new Lots();
    private final Sheet[] sheets = new Sheet[SHEETS];

    public HuntersIntroduced() {
        for (int s = 0; s < SHEETS; s++) {
            sheets[s] = new Sheet();
        }
        for (int i = 0; i < FIRST_TEXT.length(); i++) {
            reader.add(FIRST_TEXT.charAt(i));
        }
        reader.read();
        rules.add(reader.asText());
        reader.clear();
    }

    // ---- the forest, the law, hunters

    public int count(int what) {
        switch (what) {
            case 0: return truth.hunters;
            case 1: return Integer.bitCount(truth.alive);
            case 2: return truth.day;
            case 3: return rules.texts;
            case 4: return truth.law;
            case 5: return reader.size;
            default: return BAD;
        }
    }

    public int forest(int what, int d, int v) {
        if (what < 0 || what > 2 || (what != 0 && !isDeer(d))) {
            return NO_HUNTER;
        }
        int most = what == 0 ? LAST_DAY : what == 1 ? HIGHEST : 1;
        if (!isWithin(v, 0, most)) {
            return NOT_SO;
        }
        int was;
        if (what == 0) {
            was = truth.day;
            truth.day = v;
        } else if (what == 1) {
            was = truth.shy[d];
            truth.shy[d] = v;
        } else {
            was = truth.isAlive(d) ? 1 : 0;
            truth.setAlive(d, v == 1);
        }
        return was;
    }

    public int deer(int d, int what) {
        if (!isDeer(d)) {
            return NO_HUNTER;
        }
        switch (what) {
            case 0: return truth.shy[d];
            case 1: return truth.isAlive(d) ? 1 : 0;
            case 2: return truth.holders(d);
            default: return NOT_SO;
        }
    }

    public int feed(int n, int a, int b, int c, int d, int e) {
        if (!isWithin(n, 1, 5) || !isByte(a) || !isByte(b) || !isByte(c) || !isByte(d) || !isByte(e)) {
            return BAD;
        }
        if (reader.size + n > TAPE) {
            return FULL;
        }
        for (int i = 0; i < n; i++) {
            reader.add(i == 0 ? a : i == 1 ? b : i == 2 ? c : i == 3 ? d : e);
        }
        return reader.size;
    }

    public int text() {
        if (rules.texts >= TEXTS) {
            return FULL;
        }
        int fault = reader.read();
        reader.clear();
        if (fault >= 0) {
            return FAULTY - fault;
        }
        return rules.add(reader.asText());
    }

    public int force(int t) {
        if (!isWithin(t, 0, rules.texts - 1)) {
            return BAD;
        }
        int was = truth.law;
        truth.law = t;
        return was;
    }

    public int asks(int part, int p, int d) {
        if (!isWithin(part, 0, PARTS - 1) || !isHunter(p) || !isWithin(d, -1, DEER - 1)) {
            return NOTHING_SAID;
        }
        return rules.says(truth, part, p, d);
    }

    public int hunter(int kindMore, int much, int presented) {
        if (!isWithin(kindMore, 0, KINDS * MORES - 1) || !isWithin(much, 0, HIGHEST)
                || !isWithin(presented, 0, ALL_DEER)) {
            return BAD;
        }
        if (truth.hunters >= HUNTERS) {
            return FULL;
        }
        return truth.add(kindMore / MORES, kindMore % MORES, much, presented);
    }

    public int friends(int a, int b, int is) {
        if (!isHunter(a) || !isHunter(b) || a == b) {
            return NO_HUNTER;
        }
        if (!isWithin(is, 0, 1)) {
            return NOT_SO;
        }
        int was = truth.haveMet(a, b) ? 1 : 0;
        truth.setMet(a, b, is == 1);
        return was;
    }

    public int put(int p, int what, int v) {
        if (!isHunter(p)) {
            return NO_HUNTER;
        }
        if (!isWithin(what, 0, 1) || !isWithin(v, 0, what == 0 ? HIGHEST : ALL_DEER)) {
            return NOT_SO;
        }
        int was;
        if (what == 0) {
            was = truth.honour[p];
            truth.honour[p] = v;
        } else {
            was = truth.cards[p];
            truth.cards[p] = v;
        }
        return was;
    }

    public int told(int p, int what) {
        if (!isHunter(p)) {
            return NOTHING_TOLD;
        }
        switch (what) {
            case 0: return truth.honour[p];
            case 1: return truth.cards[p];
            case 2: return truth.met[p];
            case 3: return truth.kind[p];
            case 4: return truth.more[p];
            case 5: return rules.isWilling(truth, p) ? 1 : 0;
            case 6: return rules.gainOf(truth, p);
            case 7: return truth.by[p];
            case 8: return ways.sponsored(rules, truth, p);
            default: return NOT_TELLABLE;
        }
    }

    public int hits(int p, int d) {
        if (!isHunter(p) || !isDeer(d)) {
            return NOTHING_SAID;
        }
        return rules.aimOf(truth, p, d);
    }

    // ---- introductions

    public int meet(int third, int a, int b) {
        if (!isHunter(third) || !isHunter(a) || !isHunter(b) || third == a || third == b || a == b) {
            return NO_HUNTER;
        }
        if (!truth.haveMet(third, a) || !truth.haveMet(third, b) || truth.haveMet(a, b)
                || !rules.isWilling(truth, third)) {
            return STATE;
        }
        truth.setMet(a, b, true);
        truth.by[a] = third;
        truth.by[b] = third;
        return rules.reward(truth, third);
    }

    public int present(int third, int p, int d) {
        if (!isHunter(third) || !isHunter(p) || third == p) {
            return NO_HUNTER;
        }
        if (!isDeer(d)) {
            return NO_DEER;
        }
        if (!truth.haveMet(third, p) || !truth.hasCard(third, d) || truth.hasCard(p, d)
                || !truth.isAlive(d) || !rules.isWilling(truth, third)) {
            return STATE;
        }
        truth.turnCard(p, d);
        truth.by[p] = third;
        return rules.reward(truth, third);
    }

    public int circle(int p, int n) {
        if (!isHunter(p)) {
            return NO_HUNTER;
        }
        if (!isWithin(n, 1, HUNTERS)) {
            return NOT_SO;
        }
        return ways.within(rules, truth, p, n);
    }

    public int way(int p, int d, int what) {
        if (!isHunter(p)) {
            return NO_HUNTER;
        }
        if (!isDeer(d) || !isWithin(what, 0, 2)) {
            return NOT_SO;
        }
        if (truth.hasCard(p, d)) {
            return what == 2 ? NONE : 0;
        }
        ways.measure(rules, truth, p);
        int sponsor = ways.sponsorOf(truth, p, d);
        if (sponsor == NONE || what == 2) {
            return sponsor;
        }
        return what == 0 ? ways.far[sponsor] : ways.pathTo(truth, sponsor);
    }

    // ---- shots

    public int shoot(int p, int d) {
        int refusal = shotRefusal(p, d);
        return refusal != 0 ? refusal : rules.shot(truth, p, d);
    }

    public int aims(int p, int d) {
        int refusal = shotRefusal(p, d);
        return refusal != 0 ? refusal : rules.shotNow(truth, p, d);
    }

    public int season(int s, int p, int what) {
        int refusal = seasonRefusal(s);
        if (refusal != 0) {
            return refusal;
        }
        if (!isHunter(p)) {
            return NO_HUNTER;
        }
        if (!isWithin(what, 0, 4)) {
            return NOT_SO;
        }
        thought.become(truth);
        int wanted = what == 0 ? HIT : what == 1 ? POACHED : MISSED;
        int found = shootAll(thought, sheets[s], p, wanted);
        return what == 3 ? thought.honour[p] : what == 4 ? thought.alive : found;
    }

    public int hunt(int s, int p) {
        int refusal = seasonRefusal(s);
        if (refusal != 0) {
            return refusal;
        }
        if (!isHunter(p)) {
            return NO_HUNTER;
        }
        if (truth.day >= LAST_DAY) {
            return STATE;
        }
        shootAll(truth, sheets[s], p, HIT);
        truth.day++;
        return truth.honour[p];
    }

    // ---- what is best

    public int ball(int what) {
        if (!isWithin(what, 0, 1)) {
            return BAD;
        }
        thought.become(truth);
        int most = ways.allSponsored(rules, thought);
        int two = NONE;
        for (int a = 0; a < thought.hunters; a++) {
            for (int b = a + 1; b < thought.hunters; b++) {
                if (truth.haveMet(a, b)) {
                    continue;
                }
                thought.setMet(a, b, true);
                int all = ways.allSponsored(rules, thought);
                thought.setMet(a, b, false);
                if (all > most) {
                    most = all;
                    two = 10 * a + b;
                }
            }
        }
        return what == 0 ? two : most;
    }

    public int safest(int what) {
        if (!isWithin(what, 0, 1)) {
            return BAD;
        }
        int best = NONE;
        int fewest = NONE;
        for (int d = 0; d < DEER; d++) {
            int holders = Integer.bitCount(truth.holders(d));
            boolean isFirst = best == NONE;
            if (truth.isAlive(d) && (isFirst || holders < fewest
                    || (holders == fewest && truth.shy[d] > truth.shy[best]))) {
                best = d;
                fewest = holders;
            }
        }
        return what == 0 ? best : fewest;
    }

    public int prize(int p, int what) {
        if (!isHunter(p)) {
            return NO_HUNTER;
        }
        if (!isWithin(what, 0, 1)) {
            return NOT_SO;
        }
        int best = NONE;
        int most = truth.honour[p];
        for (int d = 0; d < DEER; d++) {
            int then = truth.honourByHit(p, d);
            if (rules.shotNow(truth, p, d) == HIT && (best == NONE || then > most)) {
                best = d;
                most = then;
            }
        }
        return what == 0 ? best : most;
    }

    public long society(int part) {
        if (!isWithin(part, 0, 1) || truth.hunters < 2) {
            return NO;
        }
        int ends = 0;
        for (int p = 0; p < truth.hunters; p++) {
            ends += Integer.bitCount(truth.met[p]);
        }
        return lowestTerms(ends / 2, truth.hunters * (truth.hunters - 1) / 2, part);
    }

    // ---- told seasons

    public int judge(int s, int told, int p) {
        int refusal = judgeRefusal(s, told, p);
        if (refusal != 0) {
            return refusal;
        }
        thought.become(truth);
        return firstOtherwise(sheets[s], sheets[told], p);
    }

    public int kinds(int s, int told, int p, int sort) {
        int refusal = judgeRefusal(s, told, p);
        if (refusal != 0) {
            return refusal;
        }
        if (!isWithin(sort, 0, 1)) {
            return NOT_SO;
        }
        int fitting = 0;
        for (int k = 0; k < (sort == 0 ? KINDS : MORES); k++) {
            thought.become(truth);
            if (sort == 0) {
                thought.kind[p] = k;
            } else {
                thought.more[p] = k;
            }
            if (firstOtherwise(sheets[s], sheets[told], p) == NONE) {
                fitting |= 1 << k;
            }
        }
        return fitting;
    }

    public int turned(int s, int told, int p) {
        int refusal = judgeRefusal(s, told, p);
        if (refusal != 0) {
            return refusal;
        }
        int fitting = 0;
        for (int d = 0; d < DEER; d++) {
            thought.become(truth);
            thought.turnCard(p, d);
            if (firstOtherwise(sheets[s], sheets[told], p) == NONE) {
                fitting |= 1 << d;
            }
        }
        return fitting;
    }

    public int honours(int s, int told, int p, int what) {
        int refusal = judgeRefusal(s, told, p);
        if (refusal != 0) {
            return refusal;
        }
        if (!isWithin(what, 0, 1)) {
            return NOT_SO;
        }
        int many = 0;
        int least = NONE;
        for (int v = 0; v <= HIGHEST; v++) {
            thought.become(truth);
            thought.honour[p] = v;
            if (firstOtherwise(sheets[s], sheets[told], p) == NONE) {
                many++;
                least = least == NONE ? v : least;
            }
        }
        return what == 0 ? many : least;
    }

    public int whose(int s, int told) {
        int refusal = tellingRefusal(s, told);
        if (refusal != 0) {
            return refusal;
        }
        int fitting = 0;
        for (int p = 0; p < truth.hunters; p++) {
            thought.become(truth);
            if (firstOtherwise(sheets[s], sheets[told], p) == NONE) {
                fitting |= 1 << p;
            }
        }
        return fitting;
    }

    public int laws(int s, int told, int p) {
        int refusal = judgeRefusal(s, told, p);
        if (refusal != 0) {
            return refusal;
        }
        int fitting = 0;
        for (int t = 0; t < rules.texts; t++) {
            thought.become(truth);
            thought.law = t;
            if (firstOtherwise(sheets[s], sheets[told], p) == NONE) {
                fitting |= 1 << t;
            }
        }
        return fitting;
    }

    public int film(int s, int told, int p) {
        if (!isSheet(told) || told == s) {
            return BAD;
        }
        int refusal = seasonRefusal(s);
        if (refusal != 0) {
            return refusal;
        }
        if (!isHunter(p)) {
            return NO_HUNTER;
        }
        Sheet shots = sheets[s];
        Sheet strip = sheets[told];
        strip.become(BYTES, shots.size);
        thought.become(truth);
        for (int i = 0; i < shots.size; i++) {
            rules.shot(thought, p, shots.row[i]);
            strip.set(i, thought.honour[p]);
        }
        return shots.size;
    }

    // ---- seasons by lots

    public int drawn(int seed, int n, int what) {
        if (!isWithin(seed, 0, LAST_SEED) || !isWithin(n, 0, MOST_LOT_SHOTS) || !isWithin(what, 0, 1)) {
            return BAD;
        }
        int hit = shootByLots(seed, n);
        return what == 0 ? thought.alive : hit;
    }

    public long odds(int seed, int seeds, int least, int part) {
        if (!isWithin(seed, 0, LAST_SEED) || !isWithin(seeds, 1, MOST_SEEDS)
                || !isWithin(least, 0, DEER) || !isWithin(part, 0, 1)) {
            return NO;
        }
        int many = 0;
        for (int i = 0; i < seeds; i++) {
            shootByLots(seed + i, ODDS_SHOTS);
            if (Integer.bitCount(thought.alive) >= least) {
                many++;
            }
        }
        return lowestTerms(many, seeds, part);
    }

    public int image() {
        kept.become(truth);
        isKept = true;
        return truth.hunters;
    }

    public int back() {
        if (!isKept) {
            return STATE;
        }
        truth.become(kept);
        return truth.hunters;
    }

    // ---- the host

    public int sheet(int s, int sort, int n) {
        if (!isSheet(s) || !isWithin(sort, NONE, INTS) || (sort != NONE && n > ROW)) {
            return BAD;
        }
        if (sort != NONE && n < 0) {
            return BELOW;
        }
        sheets[s].become(sort, sort == NONE ? 0 : n);
        return 1;
    }

    public int cell(int s, int i, int v) {
        if (!isSheet(s)) {
            return BAD;
        }
        if (sheets[s].isMissing()) {
            return MISSING;
        }
        if (!sheets[s].holds(i, 1)) {
            return OUTSIDE;
        }
        sheets[s].set(i, v);
        return 1;
    }

    public int copy(int s, int i, int other, int j, int n) {
        if (!isSheet(s) || !isSheet(other)) {
            return BAD;
        }
        Sheet from = sheets[s];
        Sheet to = sheets[other];
        if (from.isMissing() || to.isMissing()) {
            return MISSING;
        }
        if (from.sort != to.sort) {
            return UNLIKE;
        }
        if (!from.holds(i, n) || !to.holds(j, n)) {
            return OUTSIDE;
        }
        System.arraycopy(from.row, i, to.row, j, n);
        return n;
    }

    public int huntersBy(int s, int sort, int from, int n) {
        if (!isSheet(s) || !isWithin(sort, BYTES, INTS) || !isWithin(n, 0, HUNTERS)) {
            return BAD;
        }
        Sheet told = sheets[s];
        if (told.isMissing()) {
            return MISSING;
        }
        if (told.sort != sort) {
            return UNLIKE;
        }
        int came = 0;
        for (int k = 0; k < n; k++) {
            int at = from + 3 * k;
            if (!told.holds(at, 3)) {
                return OUTSIDE;
            }
            if (hunter(told.row[at], told.row[at + 1], told.row[at + 2]) >= 0) {
                came++;
            }
        }
        return came;
    }

    public int taken(int i, int kind) {
        if (!isWithin(kind, 0, KINDS)) {
            return BAD;
        }
        if (!isWithin(i, 0, HUNTERS + DEER - 1)) {
            return OUTSIDE;
        }
        boolean isOneOfHunters = i < HUNTERS;
        if (isOneOfHunters ? !isHunter(i) : !truth.isAlive(i - HUNTERS)) {
            return MISSING;
        }
        if (isOneOfHunters) {
            return kind < KINDS && Rules.isOfKind(truth.kind[i], kind) ? i : UNLIKE;
        }
        return kind == KINDS ? truth.shy[i - HUNTERS] : UNLIKE;
    }

    // ---- what several calls need

    private static boolean isWithin(int v, int least, int most) {
        return v >= least && v <= most;
    }

    private static boolean isByte(int v) {
        return v >= 0 && v <= 255;
    }

    private static boolean isDeer(int d) {
        return d >= 0 && d < DEER;
    }

    private static boolean isSheet(int s) {
        return s >= 0 && s < SHEETS;
    }

    private boolean isHunter(int p) {
        return p >= 0 && p < truth.hunters;
    }

    /** Above or below the line, in lowest terms; below isn't 0. */
    private static long lowestTerms(long above, long below, int part) {
        long a = above;
        long b = below;
        for (int i = 0; i < 64 && b != 0; i++) {
            long rest = a % b;
            a = b;
            b = rest;
        }
        long of = part == 0 ? above : below;
        return a == 0 ? of : of / a;
    }

    private int shotRefusal(int p, int d) {
        if (!isHunter(p)) {
            return NO_HUNTER;
        }
        return isDeer(d) ? 0 : NO_DEER;
    }

    /** Why a sheet tells no season; 0 if it tells one. */
    private int seasonRefusal(int s) {
        if (!isSheet(s)) {
            return BAD;
        }
        if (sheets[s].isMissing()) {
            return MISSING;
        }
        return sheets[s].tellsDeer() ? 0 : BAD;
    }

    /** Why two sheets tell no season and honour of it; 0 if they do. */
    private int tellingRefusal(int s, int told) {
        if (!isSheet(told)) {
            return BAD;
        }
        int refusal = seasonRefusal(s);
        if (refusal != 0) {
            return refusal;
        }
        if (sheets[told].isMissing()) {
            return MISSING;
        }
        return sheets[told].size > sheets[s].size ? BAD : 0;
    }

    private int judgeRefusal(int s, int told, int p) {
        int refusal = tellingRefusal(s, told);
        if (refusal != 0) {
            return refusal;
        }
        return isHunter(p) ? 0 : NO_HUNTER;
    }

    /** A season: how many of its shots were as wanted. */
    private int shootAll(Forest f, Sheet shots, int p, int wanted) {
        int found = 0;
        for (int i = 0; i < shots.size; i++) {
            if (rules.shot(f, p, shots.row[i]) == wanted) {
                found++;
            }
        }
        return found;
    }

    /** In the thought as it is laid out: the first shot behind which honour isn't as told, or NONE. */
    private int firstOtherwise(Sheet shots, Sheet told, int p) {
        for (int i = 0; i < told.size && i < shots.size; i++) {
            rules.shot(thought, p, shots.row[i]);
            if (thought.honour[p] != told.row[i]) {
                return i;
            }
        }
        return NONE;
    }

    /** Leaves the forest as it is then in the thought: how many were hit. */
    private int shootByLots(int seed, int n) {
        thought.become(truth);
        lots.begin(seed);
        int hit = 0;
        for (int i = 0; i < n; i++) {
            int p = lots.next(HUNTERS);
            int d = lots.next(DEER);
            if (p < thought.hunters && rules.shot(thought, p, d) == HIT) {
                hit++;
            }
        }
        return hit;
    }

    /** Deer and hunters: the true ones, those in thought, and those that the image keeps. */
    private static final class Forest {
        final int[] shy = new int[DEER];
        int alive = ALL_DEER;
        int day = 0;
        int law = 0;
        int hunters = 0;
        final int[] kind = new int[HUNTERS];
        final int[] more = new int[HUNTERS];
        final int[] honour = new int[HUNTERS];
        final int[] met = new int[HUNTERS];
        final int[] cards = new int[HUNTERS];
        final int[] by = new int[HUNTERS];

        void become(Forest other) {
            System.arraycopy(other.shy, 0, shy, 0, DEER);
            alive = other.alive;
            day = other.day;
            law = other.law;
            hunters = other.hunters;
            System.arraycopy(other.kind, 0, kind, 0, HUNTERS);
            System.arraycopy(other.more, 0, more, 0, HUNTERS);
            System.arraycopy(other.honour, 0, honour, 0, HUNTERS);
            System.arraycopy(other.met, 0, met, 0, HUNTERS);
            System.arraycopy(other.cards, 0, cards, 0, HUNTERS);
            System.arraycopy(other.by, 0, by, 0, HUNTERS);
        }

        /** There is room for one: the number of who comes. */
        int add(int itsKind, int itsMore, int much, int presented) {
            int p = hunters;
            kind[p] = itsKind;
            more[p] = itsMore;
            honour[p] = much;
            met[p] = 0;
            cards[p] = presented;
            by[p] = NONE;
            hunters++;
            return p;
        }

        boolean isAlive(int d) {
            return (alive >> d & 1) != 0;
        }

        void setAlive(int d, boolean is) {
            alive = is ? alive | 1 << d : alive & ~(1 << d);
        }

        boolean hasCard(int p, int d) {
            return (cards[p] >> d & 1) != 0;
        }

        void turnCard(int p, int d) {
            cards[p] ^= 1 << d;
        }

        boolean haveMet(int a, int b) {
            return (met[a] >> b & 1) != 0;
        }

        void setMet(int a, int b, boolean is) {
            met[a] = is ? met[a] | 1 << b : met[a] & ~(1 << b);
            met[b] = is ? met[b] | 1 << a : met[b] & ~(1 << a);
        }

        /** On whose cards a deer is, in bits. */
        int holders(int d) {
            int who = 0;
            for (int p = 0; p < hunters; p++) {
                who |= (cards[p] >> d & 1) << p;
            }
            return who;
        }

        int honourByHit(int p, int d) {
            return Math.min(HIGHEST, honour[p] + 1 + shy[d] / 10);
        }
    }

    /** Reads the tape as a text, and writes what it says as code for a stack. */
    private static final class Reader {
        // A sign's token is its own byte (40 .. 61), so keys stay below and operands above.
        // The keys of the three parts follow one another.
        static final int END = 0, BROKEN = 1, FIRST_KEY = 2, OR = 5, AND = 6, NOT = 7, NEGATE = 8, OPERANDS = 100;
        // Operands from here on are names, those below are numbers.
        static final int NAMES = 10000;
        static final int LETTER = 1, DIGIT = 2, OTHER = 3;
        static final int MOST_DIGITS = 4;
        // How close signs bind, from the loosest on.
        static final int EITHER = 0, BOTH = 1, COMPARED = 2, ADDED = 3, TIMES = 4;

        final int[] tape = new int[TAPE];
        int size = 0;
        final int[] tokens = new int[TAPE + 1];
        final int[] places = new int[TAPE + 1];
        int count = 0;
        int at = 0;
        int token = END;
        int fault = NONE;
        final int[] code = new int[TAPE];
        int length = 0;
        final int[] starts = new int[PARTS + 1];

        void add(int b) {
            if (size < TAPE) {
                tape[size] = b;
                size++;
            }
        }

        void clear() {
            size = 0;
        }

        /** Where the tape's fault is, or NONE. */
        int read() {
            scan();
            at = 0;
            token = tokens[0];
            fault = NONE;
            length = 0;
            for (int part = 0; part < PARTS; part++) {
                expect(FIRST_KEY + part);
                starts[part] = length;
                join(EITHER, 0);
                expect(';');
            }
            starts[PARTS] = length;
            expect(END);
            return fault;
        }

        Text asText() {
            return new Text(code, length, starts);
        }

        private void scan() {
            count = 0;
            int end = 0;
            for (int i = 0; i < size; i++) {
                if (i >= end && tape[i] != ' ' && tape[i] != '\n') {
                    end = endFrom(i);
                    tokens[count] = tokenOf(i, end);
                    places[count] = i;
                    count++;
                }
            }
            tokens[count] = END;
            places[count] = size;
            count++;
        }

        private int endFrom(int from) {
            int sort = sortOf(tape[from]);
            int end = from + 1;
            for (int i = end; i < size && sort != OTHER && sortOf(tape[i]) == sort; i++) {
                end = i + 1;
            }
            return end;
        }

        private static int sortOf(int b) {
            if (b >= 'a' && b <= 'z') {
                return LETTER;
            }
            return b >= '0' && b <= '9' ? DIGIT : OTHER;
        }

        private int tokenOf(int from, int end) {
            switch (sortOf(tape[from])) {
                case LETTER: return wordFrom(from, end);
                case DIGIT: return numberFrom(from, end);
                default: return isSign(tape[from]) ? tape[from] : BROKEN;
            }
        }

        private static boolean isSign(int b) {
            return b == '(' || b == ')' || b == ';' || b == '+' || b == '-' || b == '*' || b == '<' || b == '=';
        }

        private int numberFrom(int from, int end) {
            if (end - from > MOST_DIGITS) {
                return BROKEN;
            }
            int number = 0;
            for (int i = from; i < end; i++) {
                number = 10 * number + tape[i] - '0';
            }
            return OPERANDS + number;
        }

        private int wordFrom(int from, int end) {
            return stands("honours", from, end) ? FIRST_KEY + HONOURS_PART
                : stands("hits", from, end) ? FIRST_KEY + HITS_PART
                : stands("wills", from, end) ? FIRST_KEY + WILLS_PART
                : stands("or", from, end) ? OR
                : stands("and", from, end) ? AND
                : stands("not", from, end) ? NOT
                : stands("honour", from, end) ? OPERANDS + NAMES + Text.HONOUR
                : stands("shy", from, end) ? OPERANDS + NAMES + Text.SHY
                : stands("met", from, end) ? OPERANDS + NAMES + Text.MET
                : stands("cards", from, end) ? OPERANDS + NAMES + Text.CARDS
                : stands("day", from, end) ? OPERANDS + NAMES + Text.DAY
                : stands("more", from, end) ? OPERANDS + NAMES + Text.MORE
                : BROKEN;
        }

        private boolean stands(String word, int from, int end) {
            if (end - from != word.length()) {
                return false;
            }
            for (int i = from; i < end; i++) {
                if (tape[i] != word.charAt(i - from)) {
                    return false;
                }
            }
            return true;
        }

        private void advance() {
            if (at < count - 1) {
                at++;
            }
            token = tokens[at];
        }

        // Behind a fault the token is BROKEN, which stands nowhere: so all ends soon, and no later fault counts.
        private void fail() {
            if (fault == NONE) {
                fault = places[at];
            }
            token = BROKEN;
        }

        private void expect(int wanted) {
            if (token == wanted) {
                advance();
            } else {
                fail();
            }
        }

        /** Whether one more may be open; if so, what opens it is read. */
        private boolean opens(int open) {
            if (open >= OPEN) {
                fail();
                return false;
            }
            advance();
            return true;
        }

        private void emit(int step) {
            if (length < TAPE) {
                code[length] = step;
                length++;
            }
        }

        private static int rankOf(int token) {
            switch (token) {
                case OR: return EITHER;
                case AND: return BOTH;
                case '<': case '=': return COMPARED;
                case '+': case '-': return ADDED;
                case '*': return TIMES;
                default: return NONE;
            }
        }

        /** What signs of a rank join, while so many are open. */
        private void join(int rank, int open) {
            if (rank > TIMES) {
                one(open);
                return;
            }
            if (rank == COMPARED && token == NOT) {
                if (opens(open)) {
                    join(COMPARED, open + 1);
                    emit(-NOT);
                }
                return;
            }
            join(rank + 1, open);
            int most = rank == COMPARED ? 1 : TAPE;
            for (int i = 0; i < most && rankOf(token) == rank; i++) {
                int sign = token;
                advance();
                join(rank + 1, open);
                emit(-sign);
            }
        }

        private void one(int open) {
            if (token >= OPERANDS) {
                emit(token - OPERANDS);
                advance();
            } else if (token == '-') {
                if (opens(open)) {
                    one(open + 1);
                    emit(-NEGATE);
                }
            } else if (token == '(') {
                if (opens(open)) {
                    join(EITHER, open + 1);
                    expect(')');
                }
            } else {
                fail();
            }
        }
    }

    /** A text as code for a stack, its three parts one behind the other. */
    private static final class Text {
        static final int HONOUR = 0, SHY = 1, MET = 2, CARDS = 3, DAY = 4, MORE = 5, NAMES = 6;

        final int[] code;
        final int[] starts;

        Text(int[] written, int length, int[] partStarts) {
            code = new int[length];
            System.arraycopy(written, 0, code, 0, length);
            starts = partStarts.clone();
        }

        /** What a part says, for the values of the names. */
        int value(int part, int[] names, int[] stack) {
            int top = 0;
            for (int i = starts[part]; i < starts[part + 1]; i++) {
                int step = code[i];
                int name = step - Reader.NAMES;
                if (step >= 0 && top < stack.length) {
                    stack[top] = name >= 0 && name < names.length ? names[name] : step;
                    top++;
                } else if (step == -Reader.NEGATE && top >= 1) {
                    stack[top - 1] = -stack[top - 1];
                } else if (step == -Reader.NOT && top >= 1) {
                    stack[top - 1] = stack[top - 1] == 0 ? 1 : 0;
                } else if (top >= 2) {
                    int a = stack[top - 2];
                    int b = stack[top - 1];
                    top--;
                    switch (-step) {
                        case Reader.OR: stack[top - 1] = a != 0 || b != 0 ? 1 : 0; break;
                        case Reader.AND: stack[top - 1] = a != 0 && b != 0 ? 1 : 0; break;
                        case '<': stack[top - 1] = a < b ? 1 : 0; break;
                        case '=': stack[top - 1] = a == b ? 1 : 0; break;
                        case '+': stack[top - 1] = a + b; break;
                        case '-': stack[top - 1] = a - b; break;
                        default: stack[top - 1] = a * b; break;
                    }
                }
            }
            return top > 0 ? stack[0] : 0;
        }
    }

    /** What the texts and the kinds make of the hunters of a forest. */
    private static final class Rules {
        private final Text[] all = new Text[TEXTS];
        int texts = 0;
        private final int[] names = new int[Text.NAMES];
        private final int[] stack = new int[TAPE];

        /** There is room for one: its number. */
        int add(Text text) {
            all[texts] = text;
            texts++;
            return texts - 1;
        }

        /** What a part of the law says of a hunter and a deer (NONE: of none). */
        int says(Forest f, int part, int p, int d) {
            names[Text.HONOUR] = f.honour[p];
            names[Text.SHY] = d < 0 ? 0 : f.shy[d];
            names[Text.MET] = Integer.bitCount(f.met[p]);
            names[Text.CARDS] = Integer.bitCount(f.cards[p]);
            names[Text.DAY] = f.day;
            names[Text.MORE] = f.more[p];
            Text law = all[f.law];
            int said = law == null ? 0 : law.value(part, names, stack);
            if (part == WILLS_PART) {
                return said != 0 ? 1 : 0;
            }
            return Math.max(-HIGHEST, Math.min(HIGHEST, said));
        }

        static boolean isOfKind(int kind, int other) {
            return kind == other || other == HUNTER
                || (kind == CLERK && other == KEEPER) || (kind == MARKSMAN && other == SNOB);
        }

        boolean isWilling(Forest f, int p) {
            if (isOfKind(f.kind[p], KEEPER)) {
                return true;
            }
            boolean so = says(f, WILLS_PART, p, NONE) != 0;
            if (isOfKind(f.kind[p], SNOB)) {
                return so && f.day % 2 == 0;
            }
            return f.kind[p] == POACHER ? !so : so;
        }

        int gainOf(Forest f, int p) {
            int said = says(f, HONOURS_PART, p, NONE);
            switch (f.kind[p]) {
                case KEEPER: return said + f.more[p];
                case CLERK: return 2 * (said + f.more[p]);
                case MARKSMAN: return -said;
                default: return said;
            }
        }

        /** How well one hits a deer. */
        int aimOf(Forest f, int p, int d) {
            int said = says(f, HITS_PART, p, d);
            boolean isPresented = f.hasCard(p, d);
            int asHunter = isPresented ? said : said / 2;
            int asSnob = isPresented ? asHunter + f.more[p] : 0;
            switch (f.kind[p]) {
                case SNOB: return asSnob;
                case CLERK: return asHunter / 3;
                case MARKSMAN: return asSnob + 20;
                case POACHER: return isPresented ? f.more[p] : said;
                default: return asHunter;
            }
        }

        /** One has introduced: honour then. */
        int reward(Forest f, int third) {
            int honour = f.honour[third] + gainOf(f, third);
            f.honour[third] = Math.max(0, Math.min(HIGHEST, honour));
            return f.honour[third];
        }

        /** What a shot would be. */
        int shotNow(Forest f, int p, int d) {
            if (!f.isAlive(d)) {
                return GONE;
            }
            if (aimOf(f, p, d) < f.shy[d]) {
                return MISSED;
            }
            return f.hasCard(p, d) ? HIT : POACHED;
        }

        int shot(Forest f, int p, int d) {
            int is = shotNow(f, p, d);
            if (is == MISSED) {
                f.shy[d] = Math.min(HIGHEST, f.shy[d] + 5);
            } else if (is == HIT) {
                f.honour[p] = f.honourByHit(p, d);
                f.setAlive(d, false);
            } else if (is == POACHED) {
                f.honour[p] = Math.max(0, f.honour[p] - 10);
                f.setAlive(d, false);
            }
            return is;
        }
    }

    /** How far hunters are from one another, and who sponsors whom. */
    private static final class Ways {
        private int willing = 0;
        final int[] far = new int[HUNTERS]; // 0: not by any

        /** Tells in far how far all are from one. */
        void measure(Rules rules, Forest f, int p) {
            willing = 0;
            for (int q = 0; q < HUNTERS; q++) {
                far[q] = 0;
                if (q < f.hunters && rules.isWilling(f, q)) {
                    willing |= 1 << q;
                }
            }
            int seen = 1 << p;
            int ring = f.met[p];
            for (int step = 1; step <= HUNTERS; step++) {
                seen |= ring;
                int further = 0;
                for (int q = 0; q < f.hunters; q++) {
                    if ((ring >> q & 1) != 0) {
                        far[q] = step;
                        further |= isWilling(q) ? f.met[q] : 0;
                    }
                }
                ring = further & ~seen;
            }
        }

        private boolean isWilling(int q) {
            return (willing >> q & 1) != 0;
        }

        /** Who is far from one by 1 .. n, in bits. */
        int within(Rules rules, Forest f, int p, int n) {
            measure(rules, f, p);
            int who = 0;
            for (int q = 0; q < HUNTERS; q++) {
                who |= far[q] > 0 && far[q] <= n ? 1 << q : 0;
            }
            return who;
        }

        /** As measured: one's sponsor to a deer, or NONE. */
        int sponsorOf(Forest f, int p, int d) {
            if (!f.isAlive(d) || f.hasCard(p, d)) {
                return NONE;
            }
            int best = NONE;
            for (int q = 0; q < f.hunters; q++) {
                boolean can = far[q] > 0 && isWilling(q) && f.hasCard(q, d);
                if (can && (best == NONE || far[q] < far[best])) {
                    best = q;
                }
            }
            return best;
        }

        /** As measured: the digits of all on the way to a sponsor. */
        int pathTo(Forest f, int sponsor) {
            int digits = 0;
            int place = 1;
            int at = sponsor;
            for (int step = far[sponsor]; step > 0; step--) {
                digits += (at + 1) * place;
                place *= 10;
                at = step > 1 ? nearer(f, at) : at;
            }
            return digits;
        }

        private int nearer(Forest f, int at) {
            for (int q = 0; q < f.hunters; q++) {
                if (far[q] == far[at] - 1 && isWilling(q) && f.haveMet(q, at)) {
                    return q;
                }
            }
            return at;
        }

        /** Deer to which there is a sponsor of one, in bits. */
        int sponsored(Rules rules, Forest f, int p) {
            measure(rules, f, p);
            int held = 0;
            for (int q = 0; q < f.hunters; q++) {
                held |= far[q] > 0 && isWilling(q) ? f.cards[q] : 0;
            }
            return held & f.alive & ~f.cards[p];
        }

        /** To how many deer there are sponsors of all, together. */
        int allSponsored(Rules rules, Forest f) {
            int all = 0;
            for (int p = 0; p < f.hunters; p++) {
                all += Integer.bitCount(sponsored(rules, f, p));
            }
            return all;
        }
    }

    /** The lots that a seed draws. */
    private static final class Lots {
        static final long FACTOR = 48271, MODULUS = 2147483647;

        private long last = 1;

        void begin(int seed) {
            last = seed + 1;
        }

        /** The next lot, modulo so many. */
        int next(int many) {
            last = last * FACTOR % MODULUS;
            return many > 0 ? (int) (last % many) : 0;
        }
    }

    /** A row of numbers, or missing. */
    private static final class Sheet {
        int sort = NONE;
        int size = 0;
        final int[] row = new int[ROW];

        void become(int itsSort, int n) {
            sort = itsSort;
            size = n;
            for (int i = 0; i < ROW; i++) {
                row[i] = 0;
            }
        }

        boolean isMissing() {
            return sort == NONE;
        }

        /** Whether n places from i on are in the row. */
        boolean holds(int i, int n) {
            return i >= 0 && n >= 0 && n <= size && i <= size - n;
        }

        void set(int i, int v) {
            if (sort == BYTES) {
                row[i] = (byte) v;
            } else if (sort == SHORTS) {
                row[i] = (short) v;
            } else {
                row[i] = v;
            }
        }

        boolean tellsDeer() {
            for (int i = 0; i < size; i++) {
                if (!isDeer(row[i])) {
                    return false;
                }
            }
            return true;
        }
    }
}
