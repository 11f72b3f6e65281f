import java.util.ArrayDeque;
import java.util.ArrayList;
import java.util.Arrays;
import java.util.Deque;
import java.util.List;
import java.util.Set;
import java.util.TreeSet;
import java.util.function.ToIntFunction;
import java.util.regex.Matcher;
import java.util.regex.Pattern;

/** The document once more, written as plainly as the whole Java library allows: to compare answers with. */
final class Naive {
    private static final class Refused extends RuntimeException {
        private static final long serialVersionUID = 1;
        final long answer;

        Refused(long answer) {
            super(null, null, false, false);
            this.answer = answer;
        }
    }

    private static void unless(boolean is, long answer) {
        if (!is) {
            throw new Refused(answer);
        }
    }

    // ---- hunters of kinds

    /** What a text says is asked for a hunter by the parts 0, 1, 2. */
    private class Hunter {
        int more;
        int honour;
        Set<Integer> cards = new TreeSet<>();
        Set<Integer> met = new TreeSet<>();
        int by = -1;

        boolean will() {
            return says(2, this, -1) != 0;
        }

        int gains() {
            return says(0, this, -1);
        }

        int hits(int d) {
            int that = says(1, this, d);
            return cards.contains(d) ? that : that / 2;
        }
    }

    private class Keeper extends Hunter {
        @Override boolean will() {
            return true;
        }

        @Override int gains() {
            return super.gains() + more;
        }
    }

    private class Snob extends Hunter {
        @Override boolean will() {
            return day % 2 == 0 && super.will();
        }

        @Override int hits(int d) {
            return cards.contains(d) ? super.hits(d) + more : 0;
        }
    }

    private class Clerk extends Keeper {
        @Override int gains() {
            return super.gains() * 2;
        }

        @Override int hits(int d) {
            return super.hits(d) / 3;
        }
    }

    private class Marksman extends Snob {
        @Override int hits(int d) {
            return super.hits(d) + 20;
        }

        @Override int gains() {
            return 0 - super.gains();
        }
    }

    private class Poacher extends Hunter {
        @Override boolean will() {
            return !super.will();
        }

        @Override int hits(int d) {
            return cards.contains(d) ? more : says(1, this, d);
        }
    }

    private Hunter ofKind(int kind) {
        return kind == 0 ? new Hunter() : kind == 1 ? new Keeper() : kind == 2 ? new Snob()
            : kind == 3 ? new Clerk() : kind == 4 ? new Marksman() : new Poacher();
    }

    private static int kindOf(Hunter h) {
        return List.of("Hunter", "Keeper", "Snob", "Clerk", "Marksman", "Poacher")
            .indexOf(h.getClass().getSimpleName());
    }

    private Hunter like(Hunter h, int kind) {
        Hunter copy = ofKind(kind);
        copy.more = h.more;
        copy.honour = h.honour;
        copy.cards = new TreeSet<>(h.cards);
        copy.met = new TreeSet<>(h.met);
        copy.by = h.by;
        return copy;
    }

    // ---- the state

    private int[] shy = new int[10];
    private boolean[] alive = new boolean[10];
    private int day = 0;
    private int law = 0;
    private List<Hunter> hunters = new ArrayList<>();
    private final List<String[]> texts = new ArrayList<>();
    private String tape = "";
    private final Object[] sheets = new Object[4];
    private Object[] image = null;

    Naive() {
        Arrays.fill(alive, true);
        texts.add(new String[] {"3", "honour", "1"});
    }

    private Object[] snapshot() {
        List<Hunter> copies = new ArrayList<>();
        for (Hunter h : hunters) {
            copies.add(like(h, kindOf(h)));
        }
        return new Object[] {shy.clone(), alive.clone(), day, law, copies};
    }

    @SuppressWarnings("unchecked")
    private void restore(Object[] from) {
        shy = ((int[]) from[0]).clone();
        alive = ((boolean[]) from[1]).clone();
        day = (Integer) from[2];
        law = (Integer) from[3];
        hunters = new ArrayList<>();
        for (Hunter h : (List<Hunter>) from[4]) {
            hunters.add(like(h, kindOf(h)));
        }
    }

    private <T> T inThought(java.util.function.Supplier<T> thought) {
        Object[] before = snapshot();
        try {
            return thought.get();
        } finally {
            restore(before);
        }
    }

    private static int bits(Set<Integer> set) {
        int bits = 0;
        for (int i : set) {
            bits |= 1 << i;
        }
        return bits;
    }

    private static Set<Integer> set(int bits) {
        Set<Integer> set = new TreeSet<>();
        for (int i = 0; i < 10; i++) {
            if ((bits >> i & 1) != 0) {
                set.add(i);
            }
        }
        return set;
    }

    private boolean isHunter(int p) {
        return p >= 0 && p < hunters.size();
    }

    private static boolean isDeer(int d) {
        return d >= 0 && d <= 9;
    }

    // ---- texts

    private int says(int part, Hunter h, int d) {
        String e = texts.get(law)[part];
        int value = new Sum(e, h, d).all();
        return part == 2 ? (value == 0 ? 0 : 1) : Math.min(99, Math.max(-99, value));
    }

    /** Tells a faultless E while reading it. */
    private final class Sum {
        final List<String> words = new ArrayList<>();
        final Hunter h;
        final int d;
        int at = 0;

        Sum(String e, Hunter h, int d) {
            Matcher m = Pattern.compile("[a-z]+|[0-9]+|[^a-z0-9 \n]").matcher(e);
            while (m.find()) {
                words.add(m.group());
            }
            this.h = h;
            this.d = d;
        }

        boolean take(String word) {
            boolean is = at < words.size() && words.get(at).equals(word);
            at += is ? 1 : 0;
            return is;
        }

        int all() {
            int v = and();
            while (take("or")) {
                int w = and();
                v = v != 0 || w != 0 ? 1 : 0;
            }
            return v;
        }

        int and() {
            int v = not();
            while (take("and")) {
                int w = not();
                v = v != 0 && w != 0 ? 1 : 0;
            }
            return v;
        }

        int not() {
            if (take("not")) {
                return not() == 0 ? 1 : 0;
            }
            int v = sum();
            if (take("<")) {
                return v < sum() ? 1 : 0;
            }
            if (take("=")) {
                return v == sum() ? 1 : 0;
            }
            return v;
        }

        int sum() {
            int v = term();
            while (true) {
                if (take("+")) {
                    v += term();
                } else if (take("-")) {
                    v -= term();
                } else {
                    return v;
                }
            }
        }

        int term() {
            int v = one();
            while (take("*")) {
                v *= one();
            }
            return v;
        }

        int one() {
            if (take("-")) {
                return -one();
            }
            if (take("(")) {
                int v = all();
                take(")");
                return v;
            }
            String word = words.get(at++);
            switch (word) {
                case "honour": return h.honour;
                case "shy": return d < 0 ? 0 : shy[d];
                case "met": return h.met.size();
                case "cards": return h.cards.size();
                case "day": return day;
                case "more": return h.more;
                default: return Integer.parseInt(word);
            }
        }
    }

    /** Where a tape's fault is, or -1: told by what is open and by what may stand next, without any tree. */
    private static int faultOf(String tape) {
        Matcher m = Pattern.compile("[a-z]+|[0-9]+|[^ \n]").matcher(tape);
        List<String> keys = new ArrayList<>(List.of("honours", "hits", "wills"));
        Deque<String> open = new ArrayDeque<>();
        String next = "key";
        boolean compared = false;
        while (m.find()) {
            String t = m.group();
            boolean operand = t.matches("[0-9]{1,4}|honour|shy|met|cards|day|more");
            boolean isFine;
            if (next.equals("key")) {
                isFine = !keys.isEmpty() && t.equals(keys.get(0));
                if (isFine) {
                    keys.remove(0);
                    next = "not";
                    compared = false;
                }
            } else if (next.equals("sign")) {
                isFine = true;
                if (t.equals("+") || t.equals("-") || t.equals("*")) {
                    next = "one";
                } else if (!compared && (t.equals("<") || t.equals("="))) {
                    next = "one";
                    compared = true;
                } else if (t.equals("or") || t.equals("and")) {
                    drop(open, "not");
                    compared = false;
                    next = "not";
                } else if (t.equals(")") && open.stream().anyMatch(o -> o.startsWith("("))) {
                    drop(open, "not");
                    compared = open.pop().equals("(compared");
                    drop(open, "-");
                } else if (t.equals(";") && open.stream().noneMatch(o -> o.startsWith("("))) {
                    drop(open, "not");
                    next = "key";
                } else {
                    isFine = false;
                }
            } else if (operand) {
                isFine = true;
                drop(open, "-");
                next = "sign";
            } else {
                isFine = open.size() < 5 && (t.equals("(") || t.equals("-") || (t.equals("not") && next.equals("not")));
                if (isFine) {
                    open.push(t.equals("(") && compared ? "(compared" : t);
                    compared = compared && !t.equals("(");
                    next = t.equals("-") ? "one" : "not";
                }
            }
            if (!isFine) {
                return m.start();
            }
        }
        return keys.isEmpty() && next.equals("key") ? -1 : tape.length();
    }

    private static void drop(Deque<String> open, String what) {
        while (!open.isEmpty() && open.peek().equals(what)) {
            open.pop();
        }
    }

    // ---- far, sponsors, shots

    private int far(int p, int q) {
        Set<Integer> reached = new TreeSet<>(hunters.get(p).met);
        int n = 1;
        while (!reached.contains(q)) {
            Set<Integer> further = new TreeSet<>(reached);
            for (int w : reached) {
                if (w != p && hunters.get(w).will()) {
                    further.addAll(hunters.get(w).met);
                }
            }
            if (further.equals(reached)) {
                return 0;
            }
            reached = further;
            n++;
        }
        return n;
    }

    private int sponsor(int p, int d) {
        int best = -1;
        if (alive[d] && !hunters.get(p).cards.contains(d)) {
            for (int q = 0; q < hunters.size(); q++) {
                Hunter h = hunters.get(q);
                if (q != p && far(p, q) > 0 && h.will() && h.cards.contains(d)
                        && (best < 0 || far(p, q) < far(p, best))) {
                    best = q;
                }
            }
        }
        return best;
    }

    private String path(int p, int q) {
        int n = far(p, q);
        if (n == 1) {
            return "" + (q + 1);
        }
        for (int w = 0; w < hunters.size(); w++) {
            if (w != p && far(p, w) == n - 1 && hunters.get(w).will() && hunters.get(w).met.contains(q)) {
                return path(p, w) + (q + 1);
            }
        }
        throw new IllegalStateException();
    }

    private int sponsored(int p) {
        int bits = 0;
        for (int d = 0; d < 10; d++) {
            bits |= sponsor(p, d) >= 0 ? 1 << d : 0;
        }
        return bits;
    }

    private int wouldBe(int p, int d) {
        Hunter h = hunters.get(p);
        return !alive[d] ? 0 : h.hits(d) < shy[d] ? 1 : h.cards.contains(d) ? 2 : 3;
    }

    private int shot(int p, int d) {
        Hunter h = hunters.get(p);
        int is = wouldBe(p, d);
        switch (is) {
            case 1: shy[d] = Math.min(99, shy[d] + 5); break;
            case 2: h.honour = Math.min(99, h.honour + 1 + shy[d] / 10); break;
            case 3: h.honour = Math.max(0, h.honour - 10); break;
            default: break;
        }
        alive[d] &= is < 2;
        return is;
    }

    private int aliveBits() {
        int bits = 0;
        for (int d = 0; d < 10; d++) {
            bits |= alive[d] ? 1 << d : 0;
        }
        return bits;
    }

    private int[] numbers(int s) {
        int n = java.lang.reflect.Array.getLength(sheets[s]);
        int[] all = new int[n];
        for (int i = 0; i < n; i++) {
            all[i] = java.lang.reflect.Array.getInt(sheets[s], i);
        }
        return all;
    }

    private int[] seasonOf(int s) {
        unless(s >= 0 && s < 4, -2);
        unless(sheets[s] != null, -11);
        unless(Arrays.stream(numbers(s)).allMatch(Naive::isDeer), -2);
        return numbers(s);
    }

    private void refuseTold(int s, int told) {
        unless(told >= 0 && told < 4, -2);
        seasonOf(s);
        unless(sheets[told] != null, -11);
        unless(numbers(told).length <= numbers(s).length, -2);
    }

    private int otherwise(int s, int told, int p) {
        return inThought(() -> {
            int[] shots = numbers(s);
            int[] due = numbers(told);
            for (int i = 0; i < due.length; i++) {
                shot(p, shots[i]);
                if (hunters.get(p).honour != due[i]) {
                    return i;
                }
            }
            return -1;
        });
    }

    /** For which of n changes, told in thought, the season is as told. */
    private int fitting(int s, int told, int p, int n, ToIntFunction<Integer> change) {
        int bits = 0;
        for (int i = 0; i < n; i++) {
            int each = i;
            boolean is = inThought(() -> {
                int whose = change.applyAsInt(each);
                return otherwise(s, told, whose) == -1;
            });
            bits |= is ? 1 << i : 0;
        }
        return bits;
    }

    private int byLots(int seed, int n) {
        long lot = (seed + 1L) * 48271 % 2147483647;
        int hit = 0;
        for (int i = 0; i < n; i++) {
            long other = lot * 48271 % 2147483647;
            if (lot % 6 < hunters.size() && shot((int) (lot % 6), (int) (other % 10)) == 2) {
                hit++;
            }
            lot = other * 48271 % 2147483647;
        }
        return hit;
    }

    private static long lowest(long above, long below, long part) {
        long divisor = java.math.BigInteger.valueOf(above).gcd(java.math.BigInteger.valueOf(below)).longValue();
        return (part == 0 ? above : below) / divisor;
    }

    // ---- the calls, by their names

    long call(String name, int... a) {
        try {
            return answer(name, Arrays.copyOf(a, 6));
        } catch (Refused r) {
            return r.answer;
        }
    }

    private long answer(String name, int[] a) {
        switch (name) {
            case "count": case "forest": case "deer": case "feed": case "text": case "force": case "asks":
            case "hunter": case "friends": case "put": case "told": case "hits":
                return ofForest(name, a);
            case "meet": case "present": case "circle": case "way": case "shoot": case "aims": case "season":
            case "hunt": case "ball": case "safest": case "prize": case "society":
                return ofDeeds(name, a);
            case "judge": case "kinds": case "turned": case "honours": case "whose": case "laws": case "film":
            case "drawn": case "odds": case "image": case "back":
                return ofTold(name, a);
            default:
                return ofHost(name, a);
        }
    }

    private long ofForest(String name, int[] a) {
        switch (name) {
            case "count": {
                unless(a[0] >= 0 && a[0] <= 5, -2);
                return new int[] {hunters.size(), Integer.bitCount(aliveBits()), day, texts.size(), law,
                    tape.length()}[a[0]];
            }
            case "forest": {
                unless(a[0] == 0 || ((a[0] == 1 || a[0] == 2) && isDeer(a[1])), -5);
                unless(a[2] >= 0 && a[2] <= new int[] {999, 99, 1}[a[0]], -7);
                int was = a[0] == 0 ? day : a[0] == 1 ? shy[a[1]] : alive[a[1]] ? 1 : 0;
                if (a[0] == 0) {
                    day = a[2];
                } else if (a[0] == 1) {
                    shy[a[1]] = a[2];
                } else {
                    alive[a[1]] = a[2] == 1;
                }
                return was;
            }
            case "deer": {
                unless(isDeer(a[0]), -5);
                unless(a[1] >= 0 && a[1] <= 2, -7);
                int holders = 0;
                for (int p = 0; p < hunters.size(); p++) {
                    holders += hunters.get(p).cards.contains(a[0]) ? 1 << p : 0;
                }
                return new int[] {shy[a[0]], alive[a[0]] ? 1 : 0, holders}[a[1]];
            }
            case "feed": {
                unless(a[0] >= 1 && a[0] <= 5, -2);
                String more = "";
                for (int i = 1; i <= 5; i++) {
                    unless(a[i] >= 0 && a[i] <= 255, -2);
                    more += (char) a[i];
                }
                unless(tape.length() + a[0] <= 160, -4);
                tape += more.substring(0, a[0]);
                return tape.length();
            }
            case "text": {
                unless(texts.size() < 6, -4);
                String was = tape;
                tape = "";
                int fault = faultOf(was);
                unless(fault < 0, -100 - fault);
                Matcher m = Pattern.compile("\\s*honours([^;]*);\\s*hits([^;]*);\\s*wills([^;]*);\\s*").matcher(was);
                unless(m.matches(), -99999);
                texts.add(new String[] {m.group(1), m.group(2), m.group(3)});
                return texts.size() - 1;
            }
            case "force": {
                unless(a[0] >= 0 && a[0] < texts.size(), -2);
                int was = law;
                law = a[0];
                return was;
            }
            case "asks": {
                unless(a[0] >= 0 && a[0] <= 2 && isHunter(a[1]) && (a[2] == -1 || isDeer(a[2])), -1000);
                return says(a[0], hunters.get(a[1]), a[2]);
            }
            case "hunter": {
                unless(a[0] >= 0 && a[0] <= 59 && a[1] >= 0 && a[1] <= 99 && a[2] >= 0 && a[2] <= 1023, -2);
                unless(hunters.size() < 6, -4);
                Hunter h = ofKind(a[0] / 10);
                h.more = a[0] % 10;
                h.honour = a[1];
                h.cards = set(a[2]);
                hunters.add(h);
                return hunters.size() - 1;
            }
            case "friends": {
                unless(isHunter(a[0]) && isHunter(a[1]) && a[0] != a[1], -5);
                unless(a[2] == 0 || a[2] == 1, -7);
                boolean was = hunters.get(a[0]).met.contains(a[1]);
                acquaint(a[0], a[1], a[2] == 1);
                return was ? 1 : 0;
            }
            case "put": {
                unless(isHunter(a[0]), -5);
                unless((a[1] == 0 && a[2] >= 0 && a[2] <= 99) || (a[1] == 1 && a[2] >= 0 && a[2] <= 1023), -7);
                Hunter h = hunters.get(a[0]);
                int was = a[1] == 0 ? h.honour : bits(h.cards);
                if (a[1] == 0) {
                    h.honour = a[2];
                } else {
                    h.cards = set(a[2]);
                }
                return was;
            }
            case "told": {
                unless(isHunter(a[0]), -5000);
                unless(a[1] >= 0 && a[1] <= 8, -7000);
                Hunter h = hunters.get(a[0]);
                return new int[] {h.honour, bits(h.cards), bits(h.met), kindOf(h), h.more, h.will() ? 1 : 0,
                    h.gains(), h.by, sponsored(a[0])}[a[1]];
            }
            default: {
                unless(isHunter(a[0]) && isDeer(a[1]), -1000);
                return hunters.get(a[0]).hits(a[1]);
            }
        }
    }

    private void acquaint(int a, int b, boolean is) {
        if (is) {
            hunters.get(a).met.add(b);
            hunters.get(b).met.add(a);
        } else {
            hunters.get(a).met.remove(b);
            hunters.get(b).met.remove(a);
        }
    }

    private long rewarded(int third) {
        Hunter h = hunters.get(third);
        h.honour = Math.min(99, Math.max(0, h.honour + h.gains()));
        return h.honour;
    }

    private long ofDeeds(String name, int[] a) {
        switch (name) {
            case "meet": {
                unless(isHunter(a[0]) && isHunter(a[1]) && isHunter(a[2]) && Set.copyOf(
                    List.of(a[0], a[1], a[2])).size() == 3, -5);
                Hunter third = hunters.get(a[0]);
                unless(third.met.containsAll(List.of(a[1], a[2])) && !hunters.get(a[1]).met.contains(a[2])
                    && third.will(), -3);
                acquaint(a[1], a[2], true);
                hunters.get(a[1]).by = a[0];
                hunters.get(a[2]).by = a[0];
                return rewarded(a[0]);
            }
            case "present": {
                unless(isHunter(a[0]) && isHunter(a[1]) && a[0] != a[1], -5);
                unless(isDeer(a[2]), -6);
                Hunter third = hunters.get(a[0]);
                Hunter one = hunters.get(a[1]);
                unless(third.met.contains(a[1]) && third.cards.contains(a[2]) && !one.cards.contains(a[2])
                    && alive[a[2]] && third.will(), -3);
                one.cards.add(a[2]);
                one.by = a[0];
                return rewarded(a[0]);
            }
            case "circle": {
                unless(isHunter(a[0]), -5);
                unless(a[1] >= 1 && a[1] <= 6, -7);
                Set<Integer> who = new TreeSet<>();
                for (int q = 0; q < hunters.size(); q++) {
                    int far = far(a[0], q);
                    if (q != a[0] && far >= 1 && far <= a[1]) {
                        who.add(q);
                    }
                }
                return bits(who);
            }
            case "way": {
                unless(isHunter(a[0]), -5);
                unless(isDeer(a[1]) && a[2] >= 0 && a[2] <= 2, -7);
                int sponsor = sponsor(a[0], a[1]);
                if (hunters.get(a[0]).cards.contains(a[1])) {
                    return a[2] == 2 ? -1 : 0;
                }
                return sponsor < 0 || a[2] == 2 ? sponsor
                    : a[2] == 0 ? far(a[0], sponsor) : Long.parseLong(path(a[0], sponsor));
            }
            case "shoot": case "aims": {
                unless(isHunter(a[0]), -5);
                unless(isDeer(a[1]), -6);
                return name.equals("aims") ? wouldBe(a[0], a[1]) : shot(a[0], a[1]);
            }
            case "season": {
                int[] shots = seasonOf(a[0]);
                unless(isHunter(a[1]), -5);
                unless(a[2] >= 0 && a[2] <= 4, -7);
                return inThought(() -> {
                    int[] times = new int[4];
                    for (int d : shots) {
                        times[shot(a[1], d)]++;
                    }
                    return new int[] {times[2], times[3], times[1], hunters.get(a[1]).honour, aliveBits()}[a[2]];
                });
            }
            case "hunt": {
                int[] shots = seasonOf(a[0]);
                unless(isHunter(a[1]), -5);
                unless(day < 999, -3);
                for (int d : shots) {
                    shot(a[1], d);
                }
                day++;
                return hunters.get(a[1]).honour;
            }
            default:
                return ofBest(name, a);
        }
    }

    private int allSponsored() {
        int all = 0;
        for (int p = 0; p < hunters.size(); p++) {
            all += Integer.bitCount(sponsored(p));
        }
        return all;
    }

    private long ofBest(String name, int[] a) {
        switch (name) {
            case "ball": {
                unless(a[0] == 0 || a[0] == 1, -2);
                int best = allSponsored();
                int two = -1;
                for (int one = 0; one < hunters.size(); one++) {
                    for (int other = one + 1; other < hunters.size(); other++) {
                        int x = one;
                        int y = other;
                        if (!hunters.get(x).met.contains(y)) {
                            int then = inThought(() -> {
                                acquaint(x, y, true);
                                return allSponsored();
                            });
                            two = then > best ? 10 * x + y : two;
                            best = Math.max(best, then);
                        }
                    }
                }
                return a[0] == 0 ? two : best;
            }
            case "safest": {
                unless(a[0] == 0 || a[0] == 1, -2);
                List<Integer> all = new ArrayList<>();
                for (int d = 0; d < 10; d++) {
                    if (alive[d]) {
                        all.add(d);
                    }
                }
                all.sort(java.util.Comparator.<Integer>comparingInt(this::held).thenComparingInt(d -> -shy[d]));
                return all.isEmpty() ? -1 : a[0] == 0 ? all.get(0) : held(all.get(0));
            }
            case "prize": {
                unless(isHunter(a[0]), -5);
                unless(a[1] == 0 || a[1] == 1, -7);
                int best = -1;
                int most = -1;
                for (int d = 0; d < 10; d++) {
                    int deer = d;
                    int then = wouldBe(a[0], d) != 2 ? -1 : inThought(() -> {
                        shot(a[0], deer);
                        return hunters.get(a[0]).honour;
                    });
                    best = then > most ? d : best;
                    most = Math.max(most, then);
                }
                return a[1] == 0 ? best : best < 0 ? hunters.get(a[0]).honour : most;
            }
            default: {
                unless((a[0] == 0 || a[0] == 1) && hunters.size() >= 2, HuntersIntroduced.NO);
                int met = 0;
                int all = 0;
                for (int x = 0; x < hunters.size(); x++) {
                    for (int y = 0; y < x; y++) {
                        met += hunters.get(x).met.contains(y) ? 1 : 0;
                        all++;
                    }
                }
                return lowest(met, all, a[0]);
            }
        }
    }

    private int held(int d) {
        return (int) hunters.stream().filter(h -> h.cards.contains(d)).count();
    }

    private long ofTold(String name, int[] a) {
        if (List.of("judge", "kinds", "turned", "honours", "whose", "laws").contains(name)) {
            refuseTold(a[0], a[1]);
            unless(name.equals("whose") || isHunter(a[2]), -5);
            unless(!(name.equals("kinds") || name.equals("honours")) || a[3] == 0 || a[3] == 1, -7);
        }
        int p = a[2];
        switch (name) {
            case "judge":
                return otherwise(a[0], a[1], p);
            case "kinds":
                return a[3] == 0 ? fitting(a[0], a[1], p, 6, k -> {
                    hunters.set(p, like(hunters.get(p), k));
                    return p;
                }) : fitting(a[0], a[1], p, 10, k -> {
                    hunters.get(p).more = k;
                    return p;
                });
            case "turned":
                return fitting(a[0], a[1], p, 10, d -> {
                    if (!hunters.get(p).cards.remove(d)) {
                        hunters.get(p).cards.add(d);
                    }
                    return p;
                });
            case "honours": {
                List<Integer> all = new ArrayList<>();
                for (int v = 0; v < 100; v++) {
                    int much = v;
                    if (fitting(a[0], a[1], p, 1, i -> {
                        hunters.get(p).honour = much;
                        return p;
                    }) == 1) {
                        all.add(v);
                    }
                }
                return a[3] == 0 ? all.size() : all.isEmpty() ? -1 : all.get(0);
            }
            case "whose":
                return fitting(a[0], a[1], 0, hunters.size(), q -> q);
            case "laws":
                return fitting(a[0], a[1], p, texts.size(), t -> {
                    law = t;
                    return p;
                });
            default:
                return ofLots(name, a);
        }
    }

    private long ofLots(String name, int[] a) {
        switch (name) {
            case "film": {
                unless(a[1] >= 0 && a[1] < 4 && a[1] != a[0], -2);
                int[] shots = seasonOf(a[0]);
                unless(isHunter(a[2]), -5);
                byte[] strip = new byte[shots.length];
                inThought(() -> {
                    for (int i = 0; i < shots.length; i++) {
                        shot(a[2], shots[i]);
                        strip[i] = (byte) hunters.get(a[2]).honour;
                    }
                    return 0;
                });
                sheets[a[1]] = strip;
                return strip.length;
            }
            case "drawn": {
                unless(a[0] >= 0 && a[0] <= 99999 && a[1] >= 0 && a[1] <= 60 && (a[2] == 0 || a[2] == 1), -2);
                return inThought(() -> {
                    int hit = byLots(a[0], a[1]);
                    return a[2] == 0 ? aliveBits() : hit;
                });
            }
            case "odds": {
                unless(a[0] >= 0 && a[0] <= 99999 && a[1] >= 1 && a[1] <= 40 && a[2] >= 0 && a[2] <= 10
                    && (a[3] == 0 || a[3] == 1), HuntersIntroduced.NO);
                int many = 0;
                for (int i = 0; i < a[1]; i++) {
                    int seed = a[0] + i;
                    many += inThought(() -> {
                        byLots(seed, 20);
                        return Integer.bitCount(aliveBits()) >= a[2] ? 1 : 0;
                    });
                }
                return lowest(many, a[1], a[3]);
            }
            case "image": {
                image = snapshot();
                return hunters.size();
            }
            default: {
                unless(image != null, -3);
                restore(image);
                return hunters.size();
            }
        }
    }

    /** The host's rows, with what the machine itself throws. */
    private long ofHost(String name, int[] a) {
        try {
            return ofRows(name, a);
        } catch (NullPointerException e) {
            return -11;
        } catch (IndexOutOfBoundsException e) {
            return -12;
        } catch (ArrayStoreException | ClassCastException e) {
            return -13;
        } catch (NegativeArraySizeException e) {
            return -14;
        }
    }

    private long ofRows(String name, int[] a) {
        switch (name) {
            case "sheet": {
                unless(a[0] >= 0 && a[0] < 4 && a[1] >= -1 && a[1] <= 2 && (a[1] == -1 || a[2] <= 40), -2);
                sheets[a[0]] = a[1] == -1 ? null : a[1] == 0 ? new byte[a[2]]
                    : a[1] == 1 ? (Object) new short[a[2]] : new int[a[2]];
                return 1;
            }
            case "cell": {
                unless(a[0] >= 0 && a[0] < 4, -2);
                Object row = sheets[a[0]];
                if (row instanceof byte[]) {
                    ((byte[]) row)[a[1]] = (byte) a[2];
                } else if (row instanceof short[]) {
                    ((short[]) row)[a[1]] = (short) a[2];
                } else {
                    ((int[]) row)[a[1]] = a[2];
                }
                return 1;
            }
            case "copy": {
                unless(a[0] >= 0 && a[0] < 4 && a[2] >= 0 && a[2] < 4, -2);
                System.arraycopy(sheets[a[0]], a[1], sheets[a[2]], a[3], a[4]);
                return a[4];
            }
            case "huntersBy": {
                unless(a[0] >= 0 && a[0] < 4 && a[1] >= 0 && a[1] <= 2 && a[3] >= 0 && a[3] <= 6, -2);
                Object row = sheets[a[0]].getClass() == Object.class ? null : sheets[a[0]];
                Object cast = a[1] == 0 ? (byte[]) row : a[1] == 1 ? (Object) (short[]) row : (int[]) row;
                int came = 0;
                for (int k = 0; k < a[3]; k++) {
                    int[] h = new int[3];
                    for (int j = 0; j < 3; j++) {
                        h[j] = java.lang.reflect.Array.getInt(cast, a[2] + 3 * k + j);
                    }
                    came += call("hunter", h) >= 0 ? 1 : 0;
                }
                return came;
            }
            case "taken": {
                unless(a[1] >= 0 && a[1] <= 6, -2);
                Object[] lies = new Object[16];
                for (int p = 0; p < hunters.size(); p++) {
                    lies[p] = hunters.get(p);
                }
                for (int d = 0; d < 10; d++) {
                    lies[6 + d] = alive[d] ? shy[d] : null;
                }
                Object o = lies[a[0]];
                unless(o != null, -11);
                if (a[1] == 6) {
                    return (Integer) o;
                }
                return hunters.indexOf(List.of(Hunter.class, Keeper.class, Snob.class, Clerk.class,
                    Marksman.class, Poacher.class).get(a[1]).cast(o));
            }
            default:
                throw new IllegalArgumentException(name);
        }
    }
}
