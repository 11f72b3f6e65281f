import java.util.Arrays;

/** Of every number of every call: its least and its most, what is beyond them, and that refusals change nothing. */
final class EndsPromises {
    private static final int NONE = -1, BAD = -2, STATE = -3, FULL = -4;
    private static final String UNTOUCHED = Snapshot.of(Called.of(RichForest.made()), Called.of(RichForest.made()));

    private EndsPromises() {
    }

    static void run() {
        forestEnds();
        hunterEnds();
        introductionEnds();
        shotEnds();
        bestEnds();
        toldEnds();
        lotsEnds();
        hostEnds();
        firstToldRefusal();
        refusedByState();
        askedChangesNothing();
    }

    // ---- what the rows below say

    /** A call that can be done in the rich forest. */
    private static void due(int promise, String call, long want) {
        Check.due(promise + ": " + call, RichForest.told(Called.of(RichForest.made()), call), want);
    }

    /** A call that can't be done in the rich forest, or asks only. */
    private static void changesNothing(int promise, long want, String name, int... numbers) {
        Called x = Called.of(RichForest.made());
        Called like = Called.of(RichForest.made());
        String told = promise + ": " + name + Arrays.toString(numbers);
        Check.due(told, x.call(name, numbers), want);
        like.call(name, numbers);
        Check.so(told + " changes nothing", Snapshot.of(x, like).equals(UNTOUCHED));
    }

    private static void refused(int promise, String call, long want) {
        String[] words = call.split(" ");
        int[] numbers = new int[words.length - 1];
        for (int i = 0; i < numbers.length; i++) {
            numbers[i] = Integer.parseInt(words[i + 1]);
        }
        changesNothing(promise, want, words[0], numbers);
    }

    /** Number i (from 0) of a call is refused just below its least and just above its most, and far beyond. */
    private static void outside(int promise, int least, int most, int i, long want, String call) {
        for (int v : new int[] {least - 1, most + 1, Integer.MIN_VALUE, Integer.MAX_VALUE}) {
            String[] words = call.split(" ");
            words[i + 1] = "" + v;
            refused(promise, String.join(" ", words), want);
        }
    }

    // ---- promises 2 .. 8

    private static void forestEnds() {
        due(2, "count 0", 3);
        due(2, "count 5", 10);
        outside(2, 0, 5, 0, BAD, "count 0");
        due(3, "forest 0 -2147483648 0", 12);
        due(3, "forest 0 2147483647 999", 12);
        due(3, "forest 1 0 99", 0);
        due(3, "forest 1 9 0", 0);
        due(3, "forest 1 3 99", 60);
        due(3, "forest 2 0 0", 1);
        due(3, "forest 2 9 1", 1);
        due(3, "forest 2 4 1", 0);
        outside(3, 0, 2, 0, -5, "forest 0 0 0");
        outside(3, 0, 9, 1, -5, "forest 1 0 1");
        outside(3, 0, 9, 1, -5, "forest 2 0 1");
        outside(3, 0, 999, 2, -7, "forest 0 0 0");
        outside(3, 0, 99, 2, -7, "forest 1 9 0");
        outside(3, 0, 1, 2, -7, "forest 2 9 0");
        due(4, "deer 0 2", 1);
        due(4, "deer 9 0", 0);
        due(4, "deer 4 1", 0);
        outside(4, 0, 9, 0, -5, "deer 0 0");
        outside(4, 0, 2, 1, -7, "deer 0 0");
        due(5, "feed 1 0 0 0 0 0", 11);
        due(5, "feed 5 255 255 255 255 255", 15);
        outside(5, 1, 5, 0, BAD, "feed 1 32 32 32 32 32");
        for (int i = 1; i <= 5; i++) {
            outside(5, 0, 255, i, BAD, "feed 1 32 32 32 32 32");
        }
        due(7, "force 0", 0);
        due(7, "force 1", 0);
        outside(7, 0, 1, 0, BAD, "force 1");
        due(8, "asks 0 0 -1", 3);
        due(8, "asks 1 0 9", 50);
        due(8, "asks 2 2 0", 1);
        outside(8, 0, 2, 0, -1000, "asks 0 0 0");
        outside(8, 0, 2, 1, -1000, "asks 0 0 0");
        outside(8, -1, 9, 2, -1000, "asks 0 0 0");
    }

    // ---- promises 9 .. 13

    private static void hunterEnds() {
        due(9, "hunter 0 0 0", 3);
        due(9, "hunter 59 99 1023", 3);
        outside(9, 0, 59, 0, BAD, "hunter 0 0 0");
        outside(9, 0, 99, 1, BAD, "hunter 0 0 0");
        outside(9, 0, 1023, 2, BAD, "hunter 0 0 0");
        due(10, "friends 0 2 0", 0);
        due(10, "friends 2 0 1", 0);
        due(10, "friends 0 1 0", 1);
        due(10, "friends 2 1 1", 1);
        outside(10, 0, 2, 0, -5, "friends 0 1 0");
        outside(10, 0, 2, 1, -5, "friends 1 0 0");
        outside(10, 0, 1, 2, -7, "friends 1 2 0");
        for (int p = 0; p < 3; p++) {
            refused(10, "friends " + p + " " + p + " 0", -5);
        }
        due(11, "put 0 0 0", 50);
        due(11, "put 2 0 99", 30);
        due(11, "put 0 1 0", 513);
        due(11, "put 2 1 1023", 0);
        outside(11, 0, 2, 0, -5, "put 0 0 7");
        outside(11, 0, 1, 1, -7, "put 0 0 7");
        outside(11, 0, 99, 2, -7, "put 2 0 7");
        outside(11, 0, 1023, 2, -7, "put 2 1 7");
        due(12, "told 0 0", 50);
        due(12, "told 2 8", 515);
        outside(12, 0, 2, 0, -5000, "told 0 0");
        outside(12, 0, 8, 1, -7000, "told 0 0");
        due(13, "hits 0 0", 50);
        due(13, "hits 2 9", 30);
        outside(13, 0, 2, 0, -1000, "hits 0 0");
        outside(13, 0, 9, 1, -1000, "hits 0 0");
    }

    // ---- promises 14 .. 17

    private static void introductionEnds() {
        due(14, "meet 1 0 2", 28);
        due(14, "meet 1 2 0", 28);
        outside(14, 0, 2, 0, -5, "meet 1 0 2");
        outside(14, 0, 2, 1, -5, "meet 1 0 2");
        outside(14, 0, 2, 2, -5, "meet 1 0 2");
        due(15, "present 0 1 0", 53);
        due(15, "present 0 1 9", 53);
        due(15, "present 1 2 1", 28);
        outside(15, 0, 2, 0, -5, "present 0 1 9");
        outside(15, 0, 2, 1, -5, "present 0 1 9");
        outside(15, 0, 9, 2, -6, "present 0 1 9");
        due(16, "circle 0 1", 2);
        due(16, "circle 0 6", 6);
        due(16, "circle 2 6", 3);
        outside(16, 0, 2, 0, -5, "circle 0 1");
        outside(16, 1, 6, 1, -7, "circle 0 1");
        due(17, "way 0 0 0", 0);
        due(17, "way 0 9 2", NONE);
        due(17, "way 2 9 0", 2);
        due(17, "way 2 9 1", 21);
        due(17, "way 2 0 2", 0);
        due(17, "way 2 4 0", NONE);
        outside(17, 0, 2, 0, -5, "way 0 0 0");
        outside(17, 0, 9, 1, -7, "way 0 0 0");
        outside(17, 0, 2, 2, -7, "way 0 0 0");
    }

    // ---- promises 18 .. 21

    private static void shotEnds() {
        for (String shot : new String[] {"shoot", "aims"}) {
            int promise = shot.equals("shoot") ? 18 : 19;
            due(promise, shot + " 0 0", 2);
            due(promise, shot + " 0 9", 2);
            due(promise, shot + " 2 9", 3);
            due(promise, shot + " 0 3", 1);
            due(promise, shot + " 0 4", 0);
            outside(promise, 0, 2, 0, -5, shot + " 0 0");
            outside(promise, 0, 9, 1, -6, shot + " 0 0");
        }
        due(20, "season 0 0 0", 2);
        due(20, "season 0 0 1", 0);
        due(20, "season 0 0 2", 1);
        due(20, "season 0 0 3", 52);
        due(20, "season 0 0 4", 1023 - 16 - 1 - 512);
        due(20, "season 0 2 1", 2);
        outside(20, 0, 3, 0, BAD, "season 0 0 0");
        refused(20, "season 3 0 0", -11);
        refused(20, "season 2 0 0", BAD);
        outside(20, 0, 2, 1, -5, "season 0 0 0");
        outside(20, 0, 4, 2, -7, "season 0 0 0");
        due(21, "hunt 0 0", 52);
        due(21, "hunt 0 2", 10);
        outside(21, 0, 3, 0, BAD, "hunt 0 0");
        refused(21, "hunt 3 0", -11);
        refused(21, "hunt 2 0", BAD);
        refused(21, "hunt 1 0", BAD);
        outside(21, 0, 2, 1, -5, "hunt 0 0");
    }

    // ---- promises 22 .. 25

    private static void bestEnds() {
        due(22, "ball 0", NONE);
        due(22, "ball 1", 6);
        outside(22, 0, 1, 0, BAD, "ball 0");
        due(23, "safest 0", 3);
        due(23, "safest 1", 0);
        outside(23, 0, 1, 0, BAD, "safest 0");
        due(24, "prize 0 0", 0);
        due(24, "prize 0 1", 51);
        due(24, "prize 2 0", NONE);
        due(24, "prize 2 1", 30);
        outside(24, 0, 2, 0, -5, "prize 0 0");
        outside(24, 0, 1, 1, -7, "prize 0 0");
        due(25, "society 0", 2);
        due(25, "society 1", 3);
        outside(25, 0, 1, 0, HuntersIntroduced.NO, "society 0");
    }

    // ---- promises 26 .. 32

    private static void toldEnds() {
        due(26, "judge 0 1 0", NONE);
        due(26, "judge 0 0 0", 0);
        due(27, "kinds 0 1 0 0", 63);
        due(27, "kinds 0 1 0 1", 1023);
        due(28, "turned 0 1 0", 1022);
        due(29, "honours 0 1 0 0", 1);
        due(29, "honours 0 1 0 1", 50);
        due(30, "whose 0 1", 1);
        due(31, "laws 0 1 0", 3);
        due(32, "film 0 3 2", 3);
        due(32, "film 0 2 0", 3);
        String[] calls = {"judge 0 1 0", "kinds 0 1 0 0", "turned 0 1 0", "honours 0 1 0 0", "whose 0 1",
            "laws 0 1 0", "film 0 1 0"};
        for (int i = 0; i < calls.length; i++) {
            String call = calls[i];
            String name = call.substring(0, call.indexOf(' '));
            String rest = call.substring(name.length() + 4);
            outside(26 + i, 0, 3, 0, BAD, call);
            outside(26 + i, 0, 3, 1, BAD, call);
            refused(26 + i, name + " 3 1" + rest, -11);
            refused(26 + i, name + " 2 1" + rest, BAD);
            if (!name.equals("film")) {
                refused(26 + i, name + " 0 3" + rest, -11);
            }
            if (!name.equals("whose")) {
                outside(26 + i, 0, 2, 2, -5, call);
            }
        }
        outside(27, 0, 1, 3, -7, "kinds 0 1 0 0");
        outside(29, 0, 1, 3, -7, "honours 0 1 0 0");
        for (int s = 0; s < 4; s++) {
            refused(32, "film " + s + " " + s + " 0", BAD);
        }
    }

    // ---- promises 33 .. 36

    private static void lotsEnds() {
        due(33, "drawn 0 0 0", 1023 - 16);
        due(33, "drawn 99999 0 1", 0);
        outside(33, 0, 99999, 0, BAD, "drawn 0 0 0");
        outside(33, 0, 60, 1, BAD, "drawn 0 0 0");
        outside(33, 0, 1, 2, BAD, "drawn 0 0 0");
        due(34, "odds 0 1 0 0", 1);
        due(34, "odds 0 40 0 1", 1);
        due(34, "odds 99999 40 10 0", 0);
        due(34, "odds 99999 1 10 1", 1);
        outside(34, 0, 99999, 0, HuntersIntroduced.NO, "odds 0 1 0 0");
        outside(34, 1, 40, 1, HuntersIntroduced.NO, "odds 0 1 0 0");
        outside(34, 0, 10, 2, HuntersIntroduced.NO, "odds 0 1 0 0");
        outside(34, 0, 1, 3, HuntersIntroduced.NO, "odds 0 1 0 0");
        due(35, "image", 3);
        due(36, "back", 3);
    }

    // ---- promises 37 .. 41

    private static void hostEnds() {
        due(37, "sheet 0 0 0", 1);
        due(37, "sheet 3 2 40", 1);
        due(37, "sheet 3 -1 2147483647", 1);
        due(37, "sheet 0 -1 -2147483648", 1);
        outside(37, 0, 3, 0, BAD, "sheet 0 0 0");
        outside(37, -1, 2, 1, BAD, "sheet 0 0 0");
        refused(37, "sheet 0 0 41", BAD);
        refused(37, "sheet 0 1 2147483647", BAD);
        refused(37, "sheet 0 2 -1", -14);
        refused(37, "sheet 3 0 -2147483648", -14);
        due(38, "cell 0 0 2147483647", 1);
        due(38, "cell 0 2 -2147483648", 1);
        outside(38, 0, 3, 0, BAD, "cell 0 0 0");
        outside(38, 0, 2, 1, -12, "cell 0 0 0");
        refused(38, "cell 3 0 0", -11);
        due(39, "copy 0 0 0 0 3", 3);
        due(39, "copy 0 0 0 2 1", 1);
        due(39, "copy 0 3 0 3 0", 0);
        outside(39, 0, 3, 0, BAD, "copy 0 0 0 0 1");
        outside(39, 0, 3, 2, BAD, "copy 0 0 0 0 1");
        outside(39, 0, 2, 1, -12, "copy 0 0 0 0 1");
        outside(39, 0, 2, 3, -12, "copy 0 0 0 0 1");
        outside(39, 0, 3, 1, -12, "copy 0 0 0 0 0");
        outside(39, 0, 3, 3, -12, "copy 0 0 0 0 0");
        outside(39, 0, 3, 4, -12, "copy 0 0 0 0 1");
        outside(39, 0, 2, 4, -12, "copy 0 1 0 0 1");
        outside(39, 0, 1, 4, -12, "copy 0 0 0 2 1");
        refused(39, "copy 3 0 0 0 0", -11);
        refused(39, "copy 0 0 3 0 0", -11);
        refused(39, "copy 0 0 1 0 0", -13);
        due(40, "huntersBy 0 2 0 0", 0);
        due(40, "huntersBy 0 2 0 1", 1);
        due(40, "huntersBy 2 1 0 1", 0);
        outside(40, 0, 3, 0, BAD, "huntersBy 0 2 0 1");
        outside(40, 0, 2, 1, BAD, "huntersBy 0 2 0 1");
        outside(40, 0, 6, 3, BAD, "huntersBy 0 2 0 1");
        outside(40, 0, 0, 2, -12, "huntersBy 0 2 0 1");
        refused(40, "huntersBy 3 2 0 1", -11);
        refused(40, "huntersBy 0 1 0 1", -13);
        due(41, "taken 0 0", 0);
        due(41, "taken 2 5", 2);
        due(41, "taken 15 6", 0);
        due(41, "taken 9 6", 60);
        outside(41, 0, 15, 0, -12, "taken 0 0");
        outside(41, 0, 6, 1, BAD, "taken 0 0");
        refused(41, "taken 5 0", -11);
        refused(41, "taken 10 6", -11);
        refused(41, "taken 0 1", -13);
        refused(41, "taken 0 6", -13);
        refused(41, "taken 6 5", -13);
    }

    /** Of several refusals the first one told: each is beyond at least two of those that the promise names. */
    private static void firstToldRefusal() {
        refused(3, "forest 3 0 -1", -5);
        refused(3, "forest 1 10 -1", -5);
        refused(4, "deer 10 3", -5);
        refused(10, "friends 0 3 2", -5);
        refused(10, "friends 1 1 2", -5);
        refused(11, "put 3 2 -1", -5);
        refused(12, "told 3 9", -5000);
        refused(15, "present 0 3 10", -5);
        refused(15, "present 1 1 10", -5);
        refused(15, "present 2 1 10", -6);
        refused(16, "circle 3 7", -5);
        refused(17, "way 3 10 3", -5);
        refused(18, "shoot 3 10", -5);
        refused(19, "aims 3 10", -5);
        refused(20, "season 4 3 5", BAD);
        refused(20, "season 3 3 5", -11);
        refused(20, "season 2 3 5", BAD);
        refused(20, "season 0 3 5", -5);
        refused(24, "prize 3 2", -5);
        refused(26, "judge 3 4 3", BAD);
        refused(26, "judge 4 3 3", BAD);
        refused(26, "judge 3 3 3", -11);
        refused(26, "judge 2 3 3", BAD);
        refused(26, "judge 0 3 3", -11);
        refused(27, "kinds 0 1 3 2", -5);
        refused(27, "kinds 0 3 0 2", -11);
        refused(29, "honours 0 1 3 2", -5);
        refused(29, "honours 2 1 0 2", BAD);
        refused(32, "film 3 4 3", BAD);
        refused(32, "film 3 3 3", BAD);
        refused(32, "film 4 0 3", BAD);
        refused(32, "film 3 0 3", -11);
        refused(32, "film 2 0 3", BAD);
        refused(37, "sheet 4 0 -1", BAD);
        refused(37, "sheet 0 3 -1", BAD);
        refused(38, "cell 4 -1 0", BAD);
        refused(38, "cell 3 -1 0", -11);
        refused(39, "copy 3 0 4 0 0", BAD);
        refused(39, "copy 3 -1 0 -1 -1", -11);
        refused(39, "copy 0 -1 3 -1 -1", -11);
        refused(39, "copy 0 -1 1 -1 -1", -13);
        refused(40, "huntersBy 3 3 -1 7", BAD);
        refused(40, "huntersBy 3 2 -1 1", -11);
        refused(40, "huntersBy 0 0 -1 1", -13);
        refused(41, "taken 16 7", BAD);
        refused(41, "taken -1 6", -12);
        refused(41, "taken 3 6", -11);
        refused(41, "taken 10 0", -11);
    }

    /** What the state alone refuses. */
    private static void refusedByState() {
        refused(14, "meet 0 1 2", STATE);
        refused(14, "meet 2 0 1", STATE);
        refused(15, "present 1 0 0", STATE);
        refused(15, "present 0 2 0", STATE);
        refused(15, "present 0 1 1", STATE);
        refused(15, "present 2 1 0", STATE);
        HuntersIntroduced x = RichForest.made();
        x.forest(0, 0, 999);
        Check.due("21: a bad sheet ahead of the last day", x.hunt(4, 3), BAD);
        Check.due("21: a missing sheet ahead of it", x.hunt(3, 3), -11);
        Check.due("21: no season ahead of it", x.hunt(2, 3), BAD);
        Check.due("21: none such ahead of it", x.hunt(0, 3), -5);
        Check.due("21: the last day", x.hunt(0, 0), STATE);
        Check.due("21: it stays", x.count(2), 999);
        Check.due("21: nobody was hit", x.count(1), 9);
        for (int p = 3; p < 6; p++) {
            x.hunter(0, 0, 0);
        }
        Check.due("9: bad ahead of full", x.hunter(0, 0, 1024), BAD);
        Check.due("9: full", x.hunter(0, 0, 0), FULL);
        Check.due("40: left out", x.huntersBy(0, 2, 0, 1), 0);
        Check.due("9: six", x.count(0), 6);
    }

    /** What is asked changes nothing. */
    private static void askedChangesNothing() {
        for (int part = 0; part < 3; part++) {
            changesNothing(8, new int[] {3, 30, 1}[part], "asks", part, 2, 3);
        }
        int[] told = {50, 513, 2, 0, 3, 1, 3, NONE, 2};
        for (int what = 0; what < 9; what++) {
            changesNothing(12, told[what], "told", 0, what);
        }
        changesNothing(13, 25, "hits", 0, 3);
        changesNothing(16, 6, "circle", 0, 6);
        changesNothing(17, 21, "way", 2, 9, 1);
        for (int d = 0; d < 10; d++) {
            changesNothing(19, d == 0 || d == 9 ? 2 : d == 3 ? 1 : d == 4 ? 0 : 3, "aims", 0, d);
        }
        for (int what = 0; what < 5; what++) {
            changesNothing(20, new int[] {2, 0, 1, 52, 494}[what], "season", 0, 0, what);
        }
        changesNothing(22, NONE, "ball", 0);
        changesNothing(23, 3, "safest", 0);
        changesNothing(24, 51, "prize", 0, 1);
        changesNothing(25, 2, "society", 0);
        changesNothing(26, NONE, "judge", 0, 1, 0);
        changesNothing(27, 63, "kinds", 0, 1, 0, 0);
        changesNothing(27, 1023, "kinds", 0, 1, 0, 1);
        changesNothing(28, 1022, "turned", 0, 1, 0);
        changesNothing(29, 50, "honours", 0, 1, 0, 1);
        changesNothing(30, 1, "whose", 0, 1);
        changesNothing(31, 3, "laws", 0, 1, 0);
        changesNothing(34, 1, "odds", 99990, 40, 0, 1);
        changesNothing(41, 60, "taken", 9, 6);
        Called drawn = Called.of(RichForest.made());
        Called like = Called.of(RichForest.made());
        Check.due("33: drawn", drawn.call("drawn", 7, 60, 0), like.call("drawn", 7, 60, 0));
        Check.so("33: drawn changes nothing", Snapshot.of(drawn, like).equals(UNTOUCHED));
    }
}
