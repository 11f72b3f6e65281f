/**
 * A forest in which little is as at first: three hunters (two of whom will), TEXT 1, ten bytes on the tape,
 * a season of 0, 3, 9 on sheet 0 (ints), told of hunter 0 by sheet 1 (bytes), sheet 2 (shorts) that tells no season,
 * sheet 3 missing, an image of it with honour 20 of hunter 1, who has 21 since.
 */
final class RichForest {
    private static final String[] CALLS = {
        "hunter 3 50 513", "hunter 14 20 2", "hunter 59 30 0", "friends 0 1 1", "friends 1 2 1",
        "forest 0 0 12", "forest 1 3 60", "forest 2 4 0",
        "sheet 0 2 3", "cell 0 0 0", "cell 0 1 3", "cell 0 2 9",
        "sheet 1 0 2", "cell 1 0 51", "cell 1 1 51",
        "sheet 2 1 3", "cell 2 0 10", "cell 2 1 -1", "cell 2 2 500",
        "image", "put 1 0 21",
    };

    private RichForest() {
    }

    static HuntersIntroduced made() {
        HuntersIntroduced x = new HuntersIntroduced();
        layOut(Called.of(x));
        return x;
    }

    static void layOut(Called x) {
        feed(x, "honours 1; hits honour-shy; wills 1;");
        x.call("text");
        for (String call : CALLS) {
            told(x, call);
        }
        feed(x, "honours 4;");
    }

    /** A call as it is written: its name, and the numbers behind it. */
    static long told(Called x, String call) {
        String[] words = call.split(" ");
        int[] numbers = new int[words.length - 1];
        for (int i = 0; i < numbers.length; i++) {
            numbers[i] = Integer.parseInt(words[i + 1]);
        }
        return x.call(words[0], numbers);
    }

    static void feed(Called x, String bytes) {
        for (int i = 0; i < bytes.length(); i += 5) {
            int n = Math.min(5, bytes.length() - i);
            int[] five = new int[6];
            five[0] = n;
            for (int j = 0; j < n; j++) {
                five[j + 1] = bytes.charAt(i + j);
            }
            x.call("feed", five);
        }
    }
}
