/** Short ways to lay out a forest, a tape and sheets. */
final class Setting {
    private Setting() {
    }

    static void feed(HuntersIntroduced x, String bytes) {
        RichForest.feed(Called.of(x), bytes);
    }

    static int text(HuntersIntroduced x, String bytes) {
        feed(x, bytes);
        return x.text();
    }

    /** A new object in which the text is the law. */
    static HuntersIntroduced under(String text) {
        HuntersIntroduced x = new HuntersIntroduced();
        Check.due("text: " + text, text(x, text), 1);
        x.force(1);
        return x;
    }

    static void row(HuntersIntroduced x, int s, int sort, int... numbers) {
        x.sheet(s, sort, numbers.length);
        for (int i = 0; i < numbers.length; i++) {
            x.cell(s, i, numbers[i]);
        }
    }

    /** As many hunters of kind 0 as there are cards, each with honour 50. */
    static void hunters(HuntersIntroduced x, int... cards) {
        for (int c : cards) {
            x.hunter(0, 50, c);
        }
    }

    /** Twos who have met, as 10 times the one and the other. */
    static void met(HuntersIntroduced x, int... twos) {
        for (int two : twos) {
            x.friends(two / 10, two % 10, 1);
        }
    }
}
