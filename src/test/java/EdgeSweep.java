import java.util.ArrayList;
import java.util.Arrays;
import java.util.List;

/**
 * Every call with its numbers at every mix of their ends and just beyond: each answer, and what it left, is that of
 * Naive. And short texts of all tokens: each is read as Naive reads it.
 */
final class EdgeSweep {
    private static final String[] ENDS = {
        "count: -1 0 5 6",
        "forest: -1 0 1 2 3 / -1 0 4 9 10 / -1 0 1 2 99 100 999 1000",
        "deer: -1 0 4 9 10 / -1 0 1 2 3",
        "feed: 0 1 5 6 / -1 0 255 256 / 0 255 256 / -1 0 255 / 255 256 / -1 0 256",
        "text:",
        "force: -1 0 1 2",
        "asks: -1 0 1 2 3 / -1 0 2 3 / -2 -1 0 3 9 10",
        "hunter: -1 0 59 60 / -1 0 99 100 / -1 0 1023 1024",
        "friends: -1 0 1 2 3 / -1 0 1 2 3 / -1 0 1 2",
        "put: -1 0 2 3 / -1 0 1 2 / -1 0 99 100 1023 1024",
        "told: -1 0 1 2 3 / -1 0 1 2 3 4 5 6 7 8 9",
        "hits: -1 0 1 2 3 / -1 0 1 3 9 10",
        "meet: -1 0 1 2 3 / -1 0 1 2 3 / -1 0 1 2 3",
        "present: -1 0 1 2 3 / -1 0 1 2 3 / -1 0 1 4 9 10",
        "circle: -1 0 1 2 3 / 0 1 2 6 7",
        "way: -1 0 1 2 3 / -1 0 1 4 9 10 / -1 0 1 2 3",
        "shoot: -1 0 1 2 3 / -1 0 3 4 9 10",
        "aims: -1 0 1 2 3 / -1 0 3 4 9 10",
        "season: -1 0 1 2 3 4 / -1 0 1 2 3 / -1 0 1 2 3 4 5",
        "hunt: -1 0 1 2 3 4 / -1 0 1 2 3",
        "ball: -1 0 1 2",
        "safest: -1 0 1 2",
        "prize: -1 0 1 2 3 / -1 0 1 2",
        "society: -1 0 1 2",
        "judge: -1 0 1 2 3 4 / -1 0 1 2 3 4 / -1 0 1 2 3",
        "kinds: -1 0 1 2 3 4 / -1 0 1 2 3 4 / -1 0 2 3 / -1 0 1 2",
        "turned: -1 0 1 2 3 4 / -1 0 1 2 3 4 / -1 0 1 2 3",
        "honours: -1 0 1 2 3 4 / -1 0 1 2 3 4 / -1 0 2 3 / -1 0 1 2",
        "whose: -1 0 1 2 3 4 / -1 0 1 2 3 4",
        "laws: -1 0 1 2 3 4 / -1 0 1 2 3 4 / -1 0 1 2 3",
        "film: -1 0 1 2 3 4 / -1 0 1 2 3 4 / -1 0 1 2 3",
        "drawn: -1 0 99999 100000 / -1 0 60 61 / -1 0 1 2",
        "odds: -1 0 99999 100000 / 0 1 40 41 / -1 0 5 10 11 / -1 0 1 2",
        "image:",
        "back:",
        "sheet: -1 0 3 4 / -2 -1 0 1 2 3 / -1 0 40 41",
        "cell: -1 0 1 2 3 4 / -1 0 2 3 / -129 -1 0 10 127 128 256 32768 65536",
        "copy: -1 0 1 3 4 / -1 0 2 3 4 / -1 0 1 2 3 4 / -1 0 2 3 4 / -1 0 1 3 4",
        "huntersBy: -1 0 2 3 4 / -1 0 1 2 3 / -1 0 1 / -1 0 1 2 6 7",
        "taken: -1 0 1 2 3 5 6 10 15 16 / -1 0 1 2 3 4 5 6 7",
    };
    private static final String[] AFTER = {
        "count 0", "count 1", "count 2", "count 3", "count 4", "count 5", "told 0 0", "told 1 0", "told 2 0",
        "told 0 1", "told 1 1", "told 2 1", "told 3 1", "told 0 2", "told 1 2", "told 2 2", "told 0 7", "told 1 7",
        "told 2 7", "deer 0 0", "deer 0 1", "deer 3 0", "deer 9 0", "deer 9 1", "season 0 0 3", "season 0 2 4",
        "season 1 0 0", "judge 0 1 0", "judge 0 2 0", "judge 0 3 0", "copy 1 2 1 2 0", "copy 2 2 2 2 0",
        "copy 3 2 3 2 0", "copy 3 39 3 39 1", "huntersBy 2 1 0 1", "huntersBy 1 0 0 0", "huntersBy 0 0 0 0",
    };
    private static final String[] TOKENS = {"1", "shy", "(", ")", "-", "not", "<", "*", "or", ";", "x"};

    private EdgeSweep() {
    }

    static void run() {
        for (String ends : ENDS) {
            int colon = ends.indexOf(':');
            List<int[]> values = new ArrayList<>();
            for (String one : ends.substring(colon + 1).split("/")) {
                if (!one.isBlank()) {
                    values.add(Arrays.stream(one.trim().split(" ")).mapToInt(Integer::parseInt).toArray());
                }
            }
            mixes(ends.substring(0, colon), values, new int[values.size()], 0);
        }
        texts("", 4);
    }

    private static void mixes(String name, List<int[]> values, int[] numbers, int i) {
        if (i == numbers.length) {
            compare(name, numbers);
            return;
        }
        for (int v : values.get(i)) {
            numbers[i] = v;
            mixes(name, values, numbers, i + 1);
        }
    }

    private static void compare(String name, int[] numbers) {
        Called x = Called.of(new HuntersIntroduced());
        Called due = new Naive()::call;
        RichForest.layOut(x);
        RichForest.layOut(due);
        String told = "sweep: " + name + Arrays.toString(numbers);
        Check.due(told, x.call(name, numbers), due.call(name, numbers));
        for (String after : AFTER) {
            long got = RichForest.told(x, after);
            long want = RichForest.told(due, after);
            if (got != want) {
                Check.due(told + ", then " + after, got, want);
            }
        }
    }

    /** All rows of so many tokens as what hits says; most have a fault. */
    private static void texts(String begun, int more) {
        for (String token : TOKENS) {
            String e = begun + " " + token;
            text("honours 1; hits" + e + "; wills 1;");
            if (more > 1) {
                texts(e, more - 1);
            }
        }
    }

    private static void text(String bytes) {
        Called x = Called.of(new HuntersIntroduced());
        Called due = new Naive()::call;
        RichForest.feed(x, bytes);
        RichForest.feed(due, bytes);
        long want = due.call("text");
        Check.due("sweep: " + bytes, x.call("text"), want);
        if (want == 1) {
            for (String call : new String[] {"force 1", "hunter 0 50 1", "forest 1 0 7", "asks 1 0 0", "hits 0 0"}) {
                Check.due("sweep: " + bytes + ", " + call, RichForest.told(x, call), RichForest.told(due, call));
            }
        }
    }
}
