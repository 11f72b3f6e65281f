/** All that an object tells of itself, as one text. The object is spent behind it. */
final class Snapshot {
    private final Called x;
    private final StringBuilder all = new StringBuilder();

    private Snapshot(Called x) {
        this.x = x;
    }

    /** Two objects to which the same was done: the numbers of two sheets can be read only by the help of the others. */
    static String of(Called x, Called like) {
        return of(x, 0) + of(like, 2);
    }

    private static String of(Called x, int sheet) {
        Snapshot s = new Snapshot(x);
        s.forest();
        for (int i = 0; i < 4; i++) {
            s.shape(i);
        }
        s.numbers(sheet, 2 - sheet, 3 - sheet);
        s.numbers(sheet + 1, 2 - sheet, 3 - sheet);
        s.tape();
        s.tell("back");
        s.forest();
        return s.all.toString();
    }

    private long tell(String name, int... numbers) {
        long answer = x.call(name, numbers);
        all.append(' ').append(answer);
        return answer;
    }

    private void forest() {
        all.append("\ncounts");
        for (int what = 0; what < 6; what++) {
            tell("count", what);
        }
        for (int d = 0; d < 10; d++) {
            all.append("\ndeer ").append(d).append(':');
            for (int what = 0; what < 3; what++) {
                tell("deer", d, what);
            }
        }
        for (int p = 0; p < x.call("count", 0); p++) {
            all.append("\nhunter ").append(p).append(':');
            for (int what = 0; what < 9; what++) {
                tell("told", p, what);
            }
        }
    }

    /** Whether a sheet is missing, of which sort it is, and how many numbers it has. */
    private void shape(int s) {
        all.append("\nsheet ").append(s).append(':');
        for (int sort = 0; sort < 3; sort++) {
            tell("huntersBy", s, sort, 0, 0);
        }
        int n = 0;
        while (n <= 40 && x.call("copy", s, 0, s, 0, n) == n) {
            n++;
        }
        all.append(" size ").append(n - 1);
    }

    /** Numbers 0 .. 99 of a sheet: by which honour a shot at a deer that isn't alive leaves it (others are -1). */
    private void numbers(int s, int shots, int told) {
        all.append("\nnumbers of ").append(s).append(':');
        for (int sort = 0; sort < 3; sort++) {
            if (x.call("huntersBy", s, sort, 0, 0) == 0 && x.call("count", 0) > 0) {
                x.call("forest", 2, 0, 0);
                x.call("sheet", shots, 0, 1);
                x.call("sheet", told, sort, 1);
                for (int i = 0; i < 4 && x.call("copy", s, i, told, 0, 1) == 1; i++) {
                    tell("honours", shots, told, 0, 1);
                }
            }
        }
    }

    /** Whether the tape's bytes are those of RichForest: by the text that they begin. */
    private void tape() {
        all.append("\ntape:");
        tell("count", 5);
        RichForest.feed(x, " hits 2; wills 0;");
        tell("text");
        tell("force", 2);
        for (int part = 0; part < 3; part++) {
            tell("asks", part, 0, -1);
        }
    }
}
