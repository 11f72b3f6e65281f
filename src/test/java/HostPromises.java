/** Promises 37 .. 41: the host. */
final class HostPromises {
    private HostPromises() {
    }

    static void run() {
        sheet();
        cell();
        copy();
        copyRefused();
        huntersBy();
        huntersByRefused();
        taken();
    }

    /** Whether sheet 0 or 1 holds just these (0 .. 99): by which honour a shot at a deer not alive leaves it. */
    private static boolean holds(HuntersIntroduced x, int s, int sort, int... numbers) {
        if (x.count(0) == 0) {
            x.hunter(0, 0, 0);
        }
        x.forest(2, 0, 0);
        x.sheet(2, 0, 1);
        x.sheet(3, sort, 1);
        boolean all = x.cell(s, numbers.length, 0) == -12;
        for (int i = 0; i < numbers.length; i++) {
            all &= x.copy(s, i, 3, 0, 1) == 1 && x.honours(2, 3, 0, 1) == numbers[i];
        }
        return all;
    }

    private static void sheet() {
        HuntersIntroduced x = new HuntersIntroduced();
        Check.due("37: sheet", x.sheet(4, 0, 1), -2);
        Check.due("37: sheet below", x.sheet(-1, 0, 1), -2);
        Check.due("37: sort", x.sheet(0, 3, -1), -2);
        Check.due("37: sort below", x.sheet(0, -2, 1), -2);
        Check.due("37: n above", x.sheet(0, 0, 41), -2);
        Check.due("37: n below", x.sheet(0, 0, -1), -14);
        Check.due("37: still missing", x.cell(0, 0, 0), -11);
        for (int sort = 0; sort < 3; sort++) {
            Check.due("37: a row of 40", x.sheet(sort, sort, 40), 1);
            Check.due("37: its last", x.cell(sort, 39, 7), 1);
            Check.due("37: behind its last", x.cell(sort, 40, 7), -12);
        }
        Check.due("37: refused changes nothing", x.sheet(0, 2, -5), -14);
        Check.due("37: as it was", x.cell(0, 39, 1), 1);
        Check.due("37: an empty row", x.sheet(0, 2, 0), 1);
        Check.due("37: no place", x.cell(0, 0, 0), -12);
        Check.due("37: missing", x.sheet(0, -1, 41), 1);
        Check.due("37: missing, n below", x.sheet(1, -1, -9), 1);
        Check.due("37: nothing there", x.cell(0, 0, 0), -11);
        Check.due("37: nothing there, too", x.cell(1, 0, 0), -11);
        Setting.row(x, 1, 2, 9, 9, 9);
        x.sheet(1, 2, 3);
        Check.so("37: all 0", holds(x, 1, 2, 0, 0, 0));
    }

    private static void cell() {
        HuntersIntroduced x = new HuntersIntroduced();
        x.sheet(0, 0, 3);
        Check.due("38: sheet", x.cell(4, 0, 0), -2);
        Check.due("38: sheet below", x.cell(-1, 0, 0), -2);
        Check.due("38: missing", x.cell(1, 9, 0), -11);
        Check.due("38: outside", x.cell(0, 3, 0), -12);
        Check.due("38: outside below", x.cell(0, -1, 0), -12);
        Check.due("38: set", x.cell(0, 2, 300), 1);
        Setting.row(x, 0, 0, 256 + 5, -256, 1024 + 99);
        Check.so("38: the lowest 8 bits", holds(x, 0, 0, 5, 0, 99));
        Setting.row(x, 1, 1, 65536 + 7, -65536, 65536 * 3 + 1);
        Check.so("38: the lowest 16 bits", holds(x, 1, 1, 7, 0, 1));
        Setting.row(x, 1, 1, 256 + 7);
        Check.so("38: not the lowest 8 of a short", !holds(x, 1, 1, 7));
        Setting.row(x, 0, 2, 65536 + 7);
        Check.so("38: not the lowest 16 of an int", !holds(x, 0, 2, 7));
        signs();
    }

    /** A byte is one of -128 .. 127: cards above are none. */
    private static void signs() {
        HuntersIntroduced x = new HuntersIntroduced();
        Setting.row(x, 0, 0, 0, 0, 127, 0, 0, 128);
        Check.due("38: 127 is a byte", x.huntersBy(0, 0, 0, 1), 1);
        Check.due("38: 128 is below 0", x.huntersBy(0, 0, 3, 1), 0);
        Setting.row(x, 1, 1, 0, 0, 1023);
        Check.due("38: 1023 is a short", x.huntersBy(1, 1, 0, 1), 1);
    }

    private static void copy() {
        HuntersIntroduced x = new HuntersIntroduced();
        Setting.row(x, 0, 2, 1, 2, 3, 4, 5);
        Setting.row(x, 1, 2, 9, 9, 9);
        Check.due("39: n", x.copy(0, 1, 1, 1, 2), 2);
        Check.so("39: they came", holds(x, 1, 2, 9, 2, 3));
        Check.so("39: they stay", holds(x, 0, 2, 1, 2, 3, 4, 5));
        Setting.row(x, 0, 2, 1, 2, 3, 4, 5);
        Check.due("39: its own, on", x.copy(0, 0, 0, 1, 4), 4);
        Check.so("39: as they were", holds(x, 0, 2, 1, 1, 2, 3, 4));
        Setting.row(x, 0, 2, 1, 2, 3, 4, 5);
        Check.due("39: its own, back", x.copy(0, 1, 0, 0, 4), 4);
        Check.so("39: as they were, too", holds(x, 0, 2, 2, 3, 4, 5, 5));
        Check.due("39: none at the end", x.copy(0, 5, 0, 5, 0), 0);
    }

    private static void copyRefused() {
        HuntersIntroduced x = new HuntersIntroduced();
        x.sheet(0, 0, 5);
        x.sheet(1, 1, 5);
        Check.due("39: sheet", x.copy(4, 0, 2, 0, -1), -2);
        Check.due("39: sheet below", x.copy(-1, 0, 2, 0, 1), -2);
        Check.due("39: other", x.copy(2, 0, 4, 0, 1), -2);
        Check.due("39: other below", x.copy(2, 0, -1, 0, 1), -2);
        Check.due("39: missing", x.copy(2, 9, 0, 0, 1), -11);
        Check.due("39: other missing", x.copy(0, 9, 2, 0, 1), -11);
        Check.due("39: unlike sorts", x.copy(0, 9, 1, 9, -1), -13);
        Check.due("39: outside", x.copy(0, 3, 0, 0, 3), -12);
        Check.due("39: outside there", x.copy(0, 0, 0, 3, 3), -12);
        Check.due("39: outside below", x.copy(0, -1, 0, 0, 1), -12);
        Check.due("39: outside there, below", x.copy(0, 0, 0, -1, 1), -12);
        Check.due("39: n below 0", x.copy(0, 0, 0, 0, -1), -12);
        Check.due("39: n far above", x.copy(0, 1, 0, 0, Integer.MAX_VALUE), -12);
        Check.due("39: i far above", x.copy(0, Integer.MAX_VALUE, 0, 0, 1), -12);
        Check.due("39: none behind the end", x.copy(0, 6, 0, 0, 0), -12);
    }

    private static void huntersBy() {
        HuntersIntroduced x = new HuntersIntroduced();
        Setting.row(x, 0, 2, 77, 34, 40, 3, 60, 1, 1, 55, 99, 1023, 0);
        Check.due("40: one left out", x.huntersBy(0, 2, 1, 3), 2);
        Check.due("40: kind", x.told(0, 3), 3);
        Check.due("40: more", x.told(0, 4), 4);
        Check.due("40: honour", x.told(0, 0), 40);
        Check.due("40: cards", x.told(1, 1), 1023);
        Check.due("40: none of them", x.huntersBy(0, 2, 1, 0), 0);
        Check.due("40: what stood ahead came", x.huntersBy(0, 2, 1, 4), -12);
        Check.due("40: came", x.count(0), 4);
        Check.due("40: three of the last two", x.huntersBy(0, 2, 9, 1), -12);
        Setting.row(x, 0, 1, 0, 0, 0, 0, 0, 0, 0, 0, 0);
        Check.due("40: others are left out", x.huntersBy(0, 1, 0, 3), 2);
        Check.due("40: six", x.count(0), 6);
        Check.due("40: still outside", x.huntersBy(0, 1, 0, 4), -12);
    }

    private static void huntersByRefused() {
        HuntersIntroduced x = new HuntersIntroduced();
        x.sheet(0, 0, 9);
        Check.due("40: sheet", x.huntersBy(4, 0, 0, 1), -2);
        Check.due("40: sheet below", x.huntersBy(-1, 0, 0, 1), -2);
        Check.due("40: sort", x.huntersBy(1, 3, 0, 1), -2);
        Check.due("40: sort below", x.huntersBy(1, -1, 0, 1), -2);
        Check.due("40: n", x.huntersBy(1, 0, 0, 7), -2);
        Check.due("40: n below", x.huntersBy(1, 0, 0, -1), -2);
        Check.due("40: missing", x.huntersBy(1, 0, -1, 1), -11);
        Check.due("40: of another sort", x.huntersBy(0, 1, -1, 1), -13);
        Check.due("40: outside below", x.huntersBy(0, 0, -1, 1), -12);
        Check.due("40: outside", x.huntersBy(0, 0, 7, 1), -12);
        Check.due("40: far outside", x.huntersBy(0, 0, Integer.MAX_VALUE, 6), -12);
        Check.due("40: far below", x.huntersBy(0, 0, Integer.MIN_VALUE, 6), -12);
        Check.due("40: none came", x.count(0), 0);
    }

    private static void taken() {
        int[] kindsOf = {1, 1 | 2, 1 | 4, 1 | 2 | 8, 1 | 4 | 16, 1 | 32};
        HuntersIntroduced x = new HuntersIntroduced();
        x.forest(1, 9, 90);
        x.forest(2, 1, 0);
        Check.due("41: none such yet", x.taken(0, 0), -11);
        for (int p = 0; p < 6; p++) {
            x.hunter(10 * p, 0, 0);
            for (int kind = 0; kind < 6; kind++) {
                int due = (kindsOf[p] >> kind & 1) != 0 ? p : -13;
                Check.due("41: " + p + " for " + kind, x.taken(p, kind), due);
            }
            Check.due("41: for a deer", x.taken(p, 6), -13);
        }
        Check.due("41: how shy", x.taken(15, 6), 90);
        Check.due("41: how shy, first", x.taken(6, 6), 0);
        Check.due("41: for a hunter", x.taken(15, 0), -13);
        Check.due("41: not alive", x.taken(7, 0), -11);
        Check.due("41: kind", x.taken(99, 7), -2);
        Check.due("41: kind below", x.taken(99, -1), -2);
        Check.due("41: place", x.taken(16, 0), -12);
        Check.due("41: place below", x.taken(-1, 6), -12);
    }
}
