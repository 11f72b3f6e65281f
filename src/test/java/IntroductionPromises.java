/** Promises 14 .. 17: introductions. */
final class IntroductionPromises {
    private IntroductionPromises() {
    }

    static void run() {
        meet();
        meetRefused();
        present();
        presentRefused();
        rewardBounds();
        circle();
        circleByWill();
        way();
        wayOfLikeOnes();
    }

    private static void meet() {
        HuntersIntroduced x = new HuntersIntroduced();
        Setting.hunters(x, 0, 0, 0, 0);
        Setting.met(x, 1, 2, 3);
        Check.due("14: honour then", x.meet(0, 1, 2), 53);
        Check.due("14: met", x.told(1, 2), 5);
        Check.due("14: met each the other", x.told(2, 2), 3);
        Check.due("14: by whom", x.told(1, 7), 0);
        Check.due("14: by whom, both", x.told(2, 7), 0);
        Check.due("14: nobody introduced the third", x.told(0, 7), -1);
        Check.due("14: honour of the third", x.told(0, 0), 53);
        Check.due("14: honour of the two", x.told(1, 0) + x.told(2, 0), 100);
        Check.due("14: by another", x.meet(2, 0, 1), -3);
        Check.due("14: another one", x.meet(0, 3, 1), 56);
        Check.due("14: by the one they met", x.meet(1, 2, 3), 53);
        Check.due("14: the last", x.told(2, 7), 1);
    }

    private static void meetRefused() {
        HuntersIntroduced x = Setting.under("honours 1; hits 0; wills day;");
        Setting.hunters(x, 0, 0, 0);
        Setting.met(x, 1, 2);
        Check.due("14: will not", x.meet(0, 1, 2), -3);
        Check.due("14: will not changes nothing", x.told(1, 2), 1);
        Check.due("14: no third", x.meet(3, 0, 1), -5);
        Check.due("14: no third below", x.meet(-1, 0, 1), -5);
        Check.due("14: no such one", x.meet(0, 3, 1), -5);
        Check.due("14: no such other", x.meet(0, 1, -1), -5);
        Check.due("14: the third is one", x.meet(0, 0, 1), -5);
        Check.due("14: the third is the other", x.meet(0, 1, 0), -5);
        Check.due("14: one and the same", x.meet(0, 1, 1), -5);
        x.forest(0, 0, 1);
        x.friends(0, 2, 0);
        Check.due("14: has not met the other", x.meet(0, 1, 2), -3);
        Check.due("14: has not met the one", x.meet(0, 2, 1), -3);
        x.friends(0, 2, 1);
        x.friends(1, 2, 1);
        Check.due("14: have met", x.meet(0, 1, 2), -3);
        x.friends(1, 2, 0);
        Check.due("14: now", x.meet(0, 1, 2), 51);
    }

    private static void present() {
        HuntersIntroduced x = new HuntersIntroduced();
        Setting.hunters(x, 8, 0);
        Setting.met(x, 1);
        Check.due("15: honour then", x.present(0, 1, 3), 53);
        Check.due("15: cards", x.told(1, 1), 8);
        Check.due("15: by whom", x.told(1, 7), 0);
        Check.due("15: nobody introduced the third", x.told(0, 7), -1);
        Check.due("15: of that one's cards", x.present(0, 1, 3), -3);
        Check.due("15: honour stays", x.told(0, 0), 53);
    }

    private static void presentRefused() {
        HuntersIntroduced x = Setting.under("honours 1; hits 0; wills day;");
        Setting.hunters(x, 9, 0);
        Setting.met(x, 1);
        x.forest(2, 0, 0);
        Check.due("15: will not", x.present(0, 1, 3), -3);
        x.forest(0, 0, 1);
        Check.due("15: no third", x.present(2, 1, 10), -5);
        Check.due("15: no third below", x.present(-1, 1, 3), -5);
        Check.due("15: no such one", x.present(0, 2, 3), -5);
        Check.due("15: one and the same", x.present(0, 0, 3), -5);
        Check.due("15: no deer", x.present(0, 1, 10), -6);
        Check.due("15: no deer below", x.present(0, 1, -1), -6);
        Check.due("15: not of the third's cards", x.present(0, 1, 4), -3);
        Check.due("15: not alive", x.present(0, 1, 0), -3);
        x.friends(0, 1, 0);
        Check.due("15: not met", x.present(0, 1, 3), -3);
        Check.due("15: nothing changed", x.told(1, 1), 0);
        x.friends(0, 1, 1);
        Check.due("15: now", x.present(0, 1, 3), 51);
    }

    private static void rewardBounds() {
        HuntersIntroduced x = Setting.under("honours 40; hits 0; wills 1;");
        x.hunter(39, 20, 7);
        x.hunter(49, 30, 7);
        x.hunter(0, 0, 0);
        x.hunter(0, 0, 0);
        Setting.met(x, 2, 3, 12, 13);
        Check.due("14: 99 at most", x.meet(0, 2, 3), 99);
        Check.due("15: 0 at least", x.present(1, 2, 0), 0);
        Check.due("15: 99 stays", x.present(0, 2, 1), 99);
    }

    private static void circle() {
        HuntersIntroduced x = new HuntersIntroduced();
        Setting.hunters(x, 0, 0, 0, 0, 0, 0);
        Setting.met(x, 1, 12, 23, 34, 45);
        int[] due = {2, 6, 14, 30, 62, 62};
        for (int n = 1; n <= 6; n++) {
            Check.due("16: circle " + n, x.circle(0, n), due[n - 1]);
        }
        Check.due("16: not oneself", x.circle(2, 6), 59);
        x.friends(5, 0, 1);
        Check.due("16: the nearest", x.circle(0, 2), 2 | 32 | 4 | 16);
        Check.due("16: n 0", x.circle(0, 0), -7);
        Check.due("16: n 7", x.circle(0, 7), -7);
        Check.due("16: none such", x.circle(6, 0), -5);
        Check.due("16: none such below", x.circle(-1, 1), -5);
    }

    private static void circleByWill() {
        HuntersIntroduced x = Setting.under("honours 0; hits 0; wills honour;");
        Setting.hunters(x, 0, 0, 0, 0);
        Setting.met(x, 1, 12, 23);
        x.put(0, 0, 0);
        x.put(2, 0, 0);
        Check.due("16: one's own will does not matter", x.circle(0, 6), 6);
        x.put(2, 0, 1);
        Check.due("16: who wills leads on", x.circle(0, 6), 14);
        x.put(1, 0, 0);
        Check.due("16: whom one has met, willing or not", x.circle(0, 6), 2);
    }

    private static void way() {
        HuntersIntroduced x = new HuntersIntroduced();
        Setting.hunters(x, 1, 2, 4, 2 | 8, 16, 32);
        Setting.met(x, 1, 12, 23, 34, 45);
        int[] far = {0, 1, 2, 3, 4, 5, -1};
        int[] paths = {0, 2, 23, 234, 2345, 23456, -1};
        int[] sponsors = {-1, 1, 2, 3, 4, 5, -1};
        for (int d = 0; d < 7; d++) {
            Check.due("17: how far", x.way(0, d, 0), far[d]);
            Check.due("17: by whom", x.way(0, d, 1), paths[d]);
            Check.due("17: the sponsor", x.way(0, d, 2), sponsors[d]);
        }
        x.forest(2, 2, 0);
        Check.due("17: not alive", x.way(0, 2, 0), -1);
        x.forest(2, 0, 0);
        Check.due("17: of one's cards, alive or not", x.way(0, 0, 0), 0);
        Check.due("17: no deer", x.way(0, 10, 0), -7);
        Check.due("17: no deer below", x.way(0, -1, 0), -7);
        Check.due("17: what", x.way(0, 0, 3), -7);
        Check.due("17: what below", x.way(0, 0, -1), -7);
        Check.due("17: none such", x.way(6, 10, 3), -5);
        Check.due("17: none such below", x.way(-1, 0, 0), -5);
    }

    private static void wayOfLikeOnes() {
        HuntersIntroduced x = Setting.under("honours 0; hits 0; wills honour;");
        Setting.hunters(x, 0, 0, 0, 0, 1, 1);
        Setting.met(x, 1, 2, 3, 14, 24, 34, 25, 35);
        Check.due("17: the first of the nearest", x.way(0, 0, 1), 25);
        x.put(1, 0, 0);
        Check.due("17: of those who will", x.way(0, 0, 1), 35);
        x.put(4, 0, 0);
        Check.due("17: the sponsor wills", x.way(0, 0, 1), 36);
        x.put(2, 0, 0);
        Check.due("17: another way", x.way(0, 0, 1), 46);
        Check.due("17: its length", x.way(0, 0, 0), 2);
        x.friends(0, 5, 1);
        Check.due("17: at once", x.way(0, 0, 1), 6);
        HuntersIntroduced y = new HuntersIntroduced();
        Setting.hunters(y, 0, 0, 0, 1, 0, 0);
        Setting.met(y, 15, 25, 23);
        Check.due("17: not by the first, who has not met the next", y.way(5, 0, 1), 34);
        Setting.met(y, 5, 3);
        Check.due("17: by the very first", y.way(5, 0, 1), 14);
        y.put(0, 1, 1);
        Check.due("17: by the very first alone", y.way(5, 0, 1), 1);
        Check.due("17: the very first is the sponsor", y.way(5, 0, 2), 0);
    }
}
