/** Promises 22 .. 25: what is best. */
final class BestPromises {
    private BestPromises() {
    }

    static void run() {
        ball();
        ballByWill();
        safest();
        prize();
        society();
    }

    private static void ball() {
        HuntersIntroduced x = new HuntersIntroduced();
        Check.due("22: nobody", x.ball(0), -1);
        Check.due("22: nobody, none", x.ball(1), 0);
        Setting.hunters(x, 1, 2, 4, 8);
        Setting.met(x, 23);
        Check.due("22: the first of like ones", x.ball(0), 2);
        Check.due("22: to how many", x.ball(1), 6);
        x.put(3, 1, 8 | 16 | 32);
        Check.due("22: cards count", x.ball(0), 2);
        x.friends(0, 2, 1);
        Check.due("22: one left out", x.ball(0), 1);
        Check.due("22: to all", x.ball(1), 5 + 5 + 5 + 3);
        x.friends(0, 1, 1);
        Check.due("22: none better", x.ball(0), -1);
        Check.due("22: as so", x.ball(1), 18);
        Check.due("22: nobody met by that", x.told(1, 2), 1);
        HuntersIntroduced y = new HuntersIntroduced();
        Setting.hunters(y, 1, 2, 4, 8, 16, 32);
        Setting.met(y, 1, 12, 23, 45);
        y.friends(0, 1, 0);
        y.put(0, 1, 0);
        y.put(4, 1, 0);
        y.put(5, 1, 1023);
        Check.due("22: ten times the one", y.ball(0), 14);
        Check.due("22: what", x.ball(2), -2);
        Check.due("22: what below", x.ball(-1), -2);
    }

    /** Who has met two wills no more, so that some meetings lose what others had. */
    private static void ballByWill() {
        HuntersIntroduced x = Setting.under("honours 0; hits 0; wills met<2;");
        Setting.hunters(x, 1, 2, 4);
        Setting.met(x, 1);
        Check.due("22: so", x.told(0, 8) + 10 * x.told(1, 8), 12);
        Check.due("22: met tells in thought", x.ball(0), -1);
        Check.due("22: as so, two", x.ball(1), 2);
        HuntersIntroduced y = Setting.under("honours 0; hits 0; wills met=2;");
        Setting.hunters(y, 1, 2);
        Setting.met(y, 1);
        Check.due("22: nobody meets oneself", y.ball(0), -1);
        Check.due("22: to none", y.ball(1), 0);
        HuntersIntroduced six = Setting.under("honours 0; hits 0; wills cards;");
        Setting.hunters(six, 0, 0, 0, 0, 0, 1023);
        Check.due("22: of six the first", six.ball(0), 5);
        Check.due("22: to all ten", six.ball(1), 10);
        Setting.met(six, 5, 15, 25, 35);
        Check.due("22: the last of six", six.ball(0), 45);
        Check.due("22: to all ten of all", six.ball(1), 50);
        six.friends(4, 5, 1);
        Check.due("22: none is left out", six.ball(0), -1);
        Check.due("22: as it is", six.ball(1), 50);
        six.forest(2, 0, 0);
        six.put(0, 1, 512);
        Check.due("22: alive, and not of one's cards", six.ball(1), 9 * 5 - 1);
    }

    private static void safest() {
        HuntersIntroduced x = new HuntersIntroduced();
        Check.due("23: the first", x.safest(0), 0);
        x.forest(1, 6, 5);
        x.forest(1, 7, 5);
        Check.due("23: the most shy", x.safest(0), 6);
        Setting.hunters(x, 64 | 1, 64);
        Check.due("23: on fewest cards", x.safest(0), 7);
        Check.due("23: on how many", x.safest(1), 0);
        x.put(0, 1, 1023);
        Check.due("23: on one at least", x.safest(0), 7);
        Check.due("23: on one", x.safest(1), 1);
        x.forest(2, 7, 0);
        Check.due("23: alive", x.safest(0), 0);
        for (int d = 0; d < 10; d++) {
            x.forest(2, d, 0);
        }
        Check.due("23: none", x.safest(0), -1);
        Check.due("23: on none", x.safest(1), -1);
        Check.due("23: what", x.safest(2), -2);
        Check.due("23: what below", x.safest(-1), -2);
    }

    private static void prize() {
        HuntersIntroduced x = new HuntersIntroduced();
        Setting.hunters(x, 2 | 4 | 8 | 16 | 32, 0);
        int[] shy = {49, 29, 30, 39, 51, 40, 49};
        for (int d = 0; d < shy.length; d++) {
            x.forest(1, d, shy[d]);
        }
        Check.due("24: the most", x.prize(0, 0), 5);
        Check.due("24: honour then", x.prize(0, 1), 55);
        x.forest(2, 5, 0);
        Check.due("24: of like ones the first", x.prize(0, 0), 2);
        Check.due("24: that", x.prize(0, 1), 54);
        Check.due("24: none", x.prize(1, 0), -1);
        Check.due("24: as it is", x.prize(1, 1), 50);
        x.put(0, 0, 99);
        Check.due("24: 99 at most, the first", x.prize(0, 0), 1);
        Check.due("24: 99", x.prize(0, 1), 99);
        x.put(0, 1, 1023);
        Check.due("24: 99 at most, the very first", x.prize(0, 0), 0);
        x.forest(1, 9, 98);
        Check.due("24: 99 at most, the first of ten", x.prize(0, 0), 0);
        x.put(0, 0, 98);
        Check.due("24: 99 by any", x.prize(0, 0), 0);
        x.put(0, 0, 88);
        x.forest(1, 9, 88);
        Check.due("24: the last", x.prize(0, 0), 9);
        Check.due("24: by the last", x.prize(0, 1), 97);
        x.forest(1, 9, 89);
        Check.due("24: not by one that is too shy", x.prize(0, 1), 94);
        Check.due("24: nothing changed", x.count(1), 9);
        Check.due("24: none such", x.prize(2, 2), -5);
        Check.due("24: none such below", x.prize(-1, 0), -5);
        Check.due("24: what", x.prize(0, 2), -7);
        Check.due("24: what below", x.prize(0, -1), -7);
    }

    private static void society() {
        HuntersIntroduced x = new HuntersIntroduced();
        long no = HuntersIntroduced.NO;
        Check.due("25: nobody", x.society(0), no);
        Setting.hunters(x, 0);
        Check.due("25: one", x.society(1), no);
        Setting.hunters(x, 0);
        Check.due("25: none met", x.society(0), 0);
        Check.due("25: lowest terms of none", x.society(1), 1);
        Setting.hunters(x, 0, 0);
        Setting.met(x, 1, 23);
        Check.due("25: two of six", x.society(0), 1);
        Check.due("25: below", x.society(1), 3);
        Setting.met(x, 2, 3, 12, 13);
        Check.due("25: all", x.society(0), 1);
        Check.due("25: all below", x.society(1), 1);
        Setting.hunters(x, 0, 0);
        Check.due("25: six of fifteen", x.society(0), 2);
        Check.due("25: six of fifteen below", x.society(1), 5);
        Check.due("25: part", x.society(2), no);
        Check.due("25: part below", x.society(-1), no);
    }
}
