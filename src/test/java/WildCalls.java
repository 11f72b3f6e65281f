import java.lang.reflect.InvocationTargetException;
import java.lang.reflect.Method;
import java.util.ArrayList;
import java.util.Arrays;
import java.util.List;
import java.util.Random;

/** Runs of 512 calls by lots: no call throws, and each answer is that of Naive. */
final class WildCalls {
    private static final int RUNS = 400;
    private static final int CALLS = 512;
    private static final int[] NASTY = {Integer.MIN_VALUE, Integer.MAX_VALUE, -2, -1, 0, 1, 2, 3, 4, 5, 6, 7, 9, 10,
        11, 40, 41, 60, 99, 100, 255, 256, 999, 1000, 1023, 1024, 99999, 100000, -1000, 1 << 30, Integer.MAX_VALUE - 2};
    private static final String[] WORDS = {"honour", "shy", "met", "cards", "day", "more"};
    private static final String[] STRAY = {"", "not", "-", "(", ")", "or", "and", "<", "=", "+", "*", ";", "12345",
        "7", "honours", "hits", "wills", "deer", "#", "\t", "A", "shy", " ", "\n", "honour s"};

    private final Random random;
    private final HuntersIntroduced x = new HuntersIntroduced();
    private final Naive due = new Naive();
    private final List<String> calls = new ArrayList<>();
    private final List<Method> methods;
    private boolean isWrong = false;

    private WildCalls(long seed, List<Method> methods) {
        random = new Random(seed);
        this.methods = methods;
    }

    static void run() throws Exception {
        List<Method> methods = new ArrayList<>();
        for (Method m : HuntersIntroduced.class.getMethods()) {
            if (m.getDeclaringClass() == HuntersIntroduced.class) {
                methods.add(m);
            }
        }
        methods.sort((a, b) -> a.getName().compareTo(b.getName()));
        for (int run = 0; run < RUNS; run++) {
            WildCalls wild = new WildCalls(run, methods);
            wild.all();
            Check.so("wild run " + run, !wild.isWrong);
        }
    }

    private void all() throws Exception {
        for (int i = random.nextInt(8); i > 0; i--) {
            one("hunter");
        }
        for (int i = random.nextInt(12); i > 0; i--) {
            one("friends");
        }
        for (int i = random.nextInt(8); i > 0; i--) {
            one("forest");
        }
        while (calls.size() < CALLS && !isWrong) {
            int lot = random.nextInt(100);
            if (lot < 2) {
                text();
            } else if (lot < 8) {
                sheet();
            } else if (lot < 14) {
                filmed();
            } else {
                one(name());
            }
        }
    }

    /** Of a call, seldom of one that undoes or spoils much; more often of one that seldom can be done. */
    private String name() {
        String name = methods.get(random.nextInt(methods.size())).getName();
        if (List.of("feed", "text", "image", "back").contains(name) && random.nextInt(10) > 0) {
            return random.nextBoolean() ? "meet" : "present";
        }
        return name;
    }

    // ---- one call

    private void one(String name) throws Exception {
        int[] numbers = numbersFor(name);
        if (random.nextInt(12) == 0 && numbers.length > 0) {
            numbers[random.nextInt(numbers.length)] = NASTY[random.nextInt(NASTY.length)];
        }
        call(name, numbers);
    }

    private long call(String name, int... numbers) throws Exception {
        if (isWrong || calls.size() >= CALLS) {
            return 0;
        }
        Method method = null;
        for (Method m : methods) {
            method = m.getName().equals(name) ? m : method;
        }
        String told = name + Arrays.toString(numbers);
        calls.add(told);
        Object[] boxed = new Object[numbers.length];
        for (int i = 0; i < numbers.length; i++) {
            boxed[i] = numbers[i];
        }
        long got;
        try {
            got = ((Number) method.invoke(x, boxed)).longValue();
        } catch (InvocationTargetException e) {
            System.out.println(told + " threw " + e.getCause());
            isWrong = true;
            return 0;
        }
        long want = due.call(name, numbers);
        if (got != want) {
            isWrong = true;
            System.out.println(told + " answered " + got + ", due is " + want + ", behind " + calls);
        }
        return got;
    }

    private int p() {
        long hunters = due.call("count", 0);
        return random.nextInt(hunters == 0 || random.nextInt(10) == 0 ? 6 : (int) hunters);
    }

    private int d() {
        return random.nextInt(10);
    }

    private int s() {
        return random.nextInt(4);
    }

    private int[] numbersFor(String name) {
        switch (name) {
            case "count": return n(random.nextInt(6));
            case "forest": {
                int what = random.nextInt(3);
                return n(what, d(), what == 0 ? random.nextInt(1000) : what == 1 ? random.nextInt(100)
                    : random.nextInt(4) == 0 ? 0 : 1);
            }
            case "deer": return n(d(), random.nextInt(3));
            case "feed": return n(1 + random.nextInt(5), 32, 97, 40, 59, 10);
            case "text": case "image": case "back": return n();
            case "force": return n(random.nextInt(6));
            case "asks": return n(random.nextInt(3), p(), random.nextInt(11) - 1);
            case "hunter": return n(random.nextInt(60), random.nextInt(100), cards());
            case "friends": return n(p(), p(), random.nextInt(4) == 0 ? 0 : 1);
            case "put": {
                int what = random.nextInt(2);
                return n(p(), what, what == 0 ? random.nextInt(100) : cards());
            }
            case "told": return n(p(), random.nextInt(9));
            case "hits": case "shoot": case "aims": return n(p(), d());
            case "meet": return n(p(), p(), p());
            case "present": return n(p(), p(), d());
            case "circle": return n(p(), 1 + random.nextInt(6));
            case "way": return n(p(), d(), random.nextInt(3));
            case "season": return n(s(), p(), random.nextInt(5));
            case "hunt": return n(s(), p());
            case "ball": case "safest": case "society": return n(random.nextInt(2));
            case "prize": return n(p(), random.nextInt(2));
            case "judge": case "turned": case "laws": case "film": return n(s(), s(), p());
            case "kinds": case "honours": return n(s(), s(), p(), random.nextInt(2));
            case "whose": return n(s(), s());
            case "drawn": return n(random.nextInt(100000), random.nextInt(61), random.nextInt(2));
            case "odds": return n(random.nextInt(100000), 1 + random.nextInt(40), random.nextInt(11),
                random.nextInt(2));
            case "sheet": return n(s(), random.nextInt(4) - 1, random.nextInt(random.nextBoolean() ? 5 : 41));
            case "cell": return n(s(), random.nextInt(6), cellValue());
            case "copy": return n(s(), random.nextInt(5), s(), random.nextInt(5), random.nextInt(5));
            case "huntersBy": return n(s(), random.nextInt(3), random.nextInt(4), random.nextInt(4));
            case "taken": return n(random.nextInt(16), random.nextInt(7));
            default: throw new IllegalArgumentException(name);
        }
    }

    private static int[] n(int... numbers) {
        return numbers;
    }

    private int cards() {
        return random.nextInt(1024) & (random.nextBoolean() ? 1023 : random.nextInt(1024));
    }

    private int cellValue() {
        int lot = random.nextInt(10);
        return lot < 6 ? d() : lot < 8 ? random.nextInt(100) : lot < 9 ? random.nextInt(1024) : random.nextInt();
    }

    // ---- what calls seldom come upon by themselves

    /** A sheet that tells a season. */
    private void sheet() throws Exception {
        int s = s();
        int n = random.nextInt(9);
        call("sheet", s, random.nextInt(3), n);
        for (int i = 0; i < n; i++) {
            call("cell", s, i, d());
        }
    }

    /** A season filmed of one, and then judged of all in each way. */
    private void filmed() throws Exception {
        int s = s();
        int told = (s + 1 + random.nextInt(3)) % 4;
        int p = p();
        int n = (int) call("film", s, told, p);
        if (n > 0 && random.nextInt(3) == 0) {
            call("cell", told, random.nextInt(n), random.nextInt(100));
        }
        int other = random.nextInt(3) == 0 ? p() : p;
        call("judge", s, told, other);
        call("kinds", s, told, other, random.nextInt(2));
        call("turned", s, told, other);
        call("honours", s, told, other, random.nextInt(2));
        call("laws", s, told, other);
        call("whose", s, told);
    }

    private void text() throws Exception {
        StringBuilder b = new StringBuilder();
        String[] keys = {"honours", "hits", "wills"};
        for (String key : keys) {
            b.append(blanks()).append(key).append(' ').append(either(random.nextInt(4)));
            b.append(blanks()).append(';');
        }
        b.append(blanks());
        if (random.nextInt(3) == 0) {
            int at = random.nextInt(b.length());
            int end = Math.min(b.length(), at + random.nextInt(3));
            b.replace(at, end, STRAY[random.nextInt(STRAY.length)]);
        }
        String bytes = b.toString();
        for (int i = 0; i < bytes.length(); i += 5) {
            int n = Math.min(5, bytes.length() - i);
            int[] five = new int[5];
            for (int j = 0; j < n; j++) {
                five[j] = bytes.charAt(i + j);
            }
            call("feed", n, five[0], five[1], five[2], five[3], five[4]);
        }
        if (call("text") > 0) {
            call("force", random.nextInt(6));
        }
    }

    private String blanks() {
        int lot = random.nextInt(6);
        return lot == 0 ? " " : lot == 1 ? "\n " : "";
    }

    private String either(int depth) {
        String e = both(depth);
        return random.nextInt(5) == 0 ? e + " or " + both(depth) : e;
    }

    private String both(int depth) {
        String e = perhapsNot(depth);
        return random.nextInt(5) == 0 ? e + " and " + perhapsNot(depth) : e;
    }

    private String perhapsNot(int depth) {
        if (random.nextInt(6) == 0) {
            return "not " + perhapsNot(depth);
        }
        String e = sum(depth);
        return random.nextInt(4) == 0 ? e + (random.nextBoolean() ? "<" : "=") + sum(depth) : e;
    }

    private String sum(int depth) {
        String e = term(depth);
        return random.nextInt(3) == 0 ? e + (random.nextBoolean() ? "+" : "-") + term(depth) : e;
    }

    private String term(int depth) {
        String e = onePart(depth);
        return random.nextInt(4) == 0 ? e + "*" + onePart(depth) : e;
    }

    private String onePart(int depth) {
        int lot = random.nextInt(10);
        if (lot < 4) {
            return "" + random.nextInt(random.nextBoolean() ? 10 : 120) + blanks();
        }
        if (lot < 7) {
            return WORDS[random.nextInt(WORDS.length)] + blanks();
        }
        if (lot == 7) {
            return "-" + onePart(depth);
        }
        return depth > 0 ? "(" + either(depth - 1) + ")" : "honour";
    }
}
