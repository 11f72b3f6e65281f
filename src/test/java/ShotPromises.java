/** Promises 18 .. 21: shots. */
final class ShotPromises {
    private ShotPromises() {
    }

    static void run() {
        shoot();
        shootBounds();
        aims();
        season();
        seasonRefused();
        hunt();
    }

    private static void shoot() {
        HuntersIntroduced x = new HuntersIntroduced();
        Setting.hunters(x, 1 | 2);
        x.forest(1, 0, 50);
        x.forest(1, 1, 51);
        x.forest(1, 2, 25);
        x.forest(1, 3, 26);
        Check.due("18: hit", x.shoot(0, 0), 2);
        Check.due("18: 1 and a tenth more", x.told(0, 0), 56);
        Check.due("18: not alive any more", x.deer(0, 1), 0);
        Check.due("18: not alive", x.shoot(0, 0), 0);
        x.put(0, 0, 50);
        Check.due("18: missed", x.shoot(0, 1), 1);
        Check.due("18: more shy", x.deer(1, 0), 56);
        Check.due("18: still alive", x.deer(1, 1), 1);
        Check.due("18: honour stays", x.told(0, 0), 50);
        Check.due("18: missed by half", x.shoot(0, 3), 1);
        Check.due("18: poached", x.shoot(0, 2), 3);
        Check.due("18: 10 less", x.told(0, 0), 40);
        Check.due("18: poached is not alive", x.deer(2, 1), 0);
        Check.due("18: shy stays", x.deer(2, 0), 25);
        Check.due("18: cards stay", x.told(0, 1), 3);
        Check.due("18: no hunter", x.shoot(1, 10), -5);
        Check.due("18: no hunter below", x.shoot(-1, 0), -5);
        Check.due("18: no deer", x.shoot(0, 10), -6);
        Check.due("18: no deer below", x.shoot(0, -1), -6);
    }

    private static void shootBounds() {
        HuntersIntroduced x = new HuntersIntroduced();
        Setting.hunters(x, 1 | 2);
        x.forest(1, 0, 97);
        Check.due("18: missed", x.shoot(0, 0), 1);
        Check.due("18: 99 at most", x.deer(0, 0), 99);
        x.put(0, 0, 99);
        Check.due("18: hit", x.shoot(0, 0), 2);
        Check.due("18: honour 99 at most", x.told(0, 0), 99);
        x.put(0, 0, 9);
        Check.due("18: poached", x.shoot(0, 5), 3);
        Check.due("18: 0 at least", x.told(0, 0), 0);
        x.put(0, 0, 89);
        x.forest(1, 1, 89);
        x.shoot(0, 1);
        Check.due("18: a tenth, cut", x.told(0, 0), 98);
    }

    private static void aims() {
        HuntersIntroduced x = new HuntersIntroduced();
        Setting.hunters(x, 1 | 2);
        x.forest(1, 1, 51);
        x.forest(2, 3, 0);
        Check.due("19: hit", x.aims(0, 0), 2);
        Check.due("19: missed", x.aims(0, 1), 1);
        Check.due("19: poached", x.aims(0, 2), 3);
        Check.due("19: not alive", x.aims(0, 3), 0);
        x.hunter(0, 99, 0);
        Check.due("19: poached by another", x.aims(1, 0), 3);
        x.put(1, 0, 0);
        x.forest(1, 0, 1);
        Check.due("19: missed by another", x.aims(1, 0), 1);
        x.put(1, 1, 1);
        x.put(1, 0, 1);
        Check.due("19: hit by another", x.aims(1, 0), 2);
        x.forest(1, 0, 0);
        Check.due("19: nothing changed", x.count(1), 9);
        Check.due("19: nothing changed, shy", x.deer(1, 0), 51);
        Check.due("19: nothing changed, honour", x.told(0, 0), 50);
        Check.due("19: no hunter", x.aims(2, 10), -5);
        Check.due("19: no deer", x.aims(0, 10), -6);
        Check.due("19: no deer below", x.aims(0, -1), -6);
    }

    /** Missed, hit, poached, missed by less honour, not there, hit. */
    private static HuntersIntroduced laidOut() {
        HuntersIntroduced x = new HuntersIntroduced();
        Setting.hunters(x, 1 | 2 | 16, 0);
        int[] shy = {60, 45, 20, 25, 40};
        for (int d = 0; d < shy.length; d++) {
            x.forest(1, d, shy[d]);
        }
        Setting.row(x, 0, 1, 0, 1, 2, 3, 2, 4);
        return x;
    }

    private static void season() {
        HuntersIntroduced x = laidOut();
        int[] due = {2, 1, 2, 50, 1023 - 2 - 4 - 16};
        for (int what = 0; what < 5; what++) {
            Check.due("20: season " + what, x.season(0, 0, what), due[what]);
        }
        Setting.row(x, 0, 1, 0, 1, 0, 0, 2);
        int[] fewer = {1, 1, 3, 45, 1023 - 2 - 4};
        for (int what = 0; what < 5; what++) {
            Check.due("20: hit once, missed thrice " + what, x.season(0, 0, what), fewer[what]);
        }
        Check.due("20: in thought", x.count(1), 10);
        Check.due("20: in thought, honour", x.told(0, 0), 50);
        Check.due("20: in thought, shy", x.deer(0, 0), 60);
        Setting.row(x, 0, 0);
        int[] none = {0, 0, 0, 50, 1023};
        for (int what = 0; what < 5; what++) {
            Check.due("20: none, too", x.season(0, 0, what), none[what]);
        }
        Setting.row(x, 0, 0, 0, 0, 0);
        Check.due("20: missed thrice", x.season(0, 0, 2), 3);
        x.forest(0, 0, 999);
        Check.due("20: on the last day, too", x.season(0, 0, 2), 3);
        seasonInThought();
    }

    /** All that tells of a shot is as it is truly, of each of the six and each DEER. */
    private static void seasonInThought() {
        for (int p = 0; p < 6; p++) {
            HuntersIntroduced x = Setting.under("honours 0; hits honour+met+day*2; wills 1;");
            for (int k = 0; k < 6; k++) {
                x.hunter(10 * k + 3 + k, 20 + k, 1 << 9 | 1 << k);
            }
            Setting.met(x, 1, 2, 23, 45);
            x.forest(0, 0, 5);
            for (int d = 0; d < 10; d++) {
                int hits = x.hits(p, d);
                x.forest(1, d, Math.max(0, hits));
                Setting.row(x, 0, 0, d);
                int is = hits < 0 ? 2 : (x.told(p, 1) >> d & 1) == 1 ? 0 : 1;
                Check.due("20: just hit in thought by " + p + " at " + d, x.season(0, p, is), 1);
                x.forest(1, d, Math.max(0, hits) + 1);
                Check.due("20: just missed in thought by " + p + " at " + d, x.season(0, p, 2), 1);
            }
        }
    }

    private static void seasonRefused() {
        HuntersIntroduced x = laidOut();
        Check.due("20: sheet", x.season(4, 9, 9), -2);
        Check.due("20: sheet below", x.season(-1, 0, 0), -2);
        Check.due("20: missing", x.season(1, 9, 9), -11);
        Check.due("20: none such", x.season(0, 2, 9), -5);
        Check.due("20: none such below", x.season(0, -1, 0), -5);
        Check.due("20: what", x.season(0, 0, 5), -7);
        Check.due("20: what below", x.season(0, 0, -1), -7);
        x.cell(0, 5, 10);
        Check.due("20: no deer", x.season(0, 2, 9), -2);
        x.cell(0, 5, -1);
        Check.due("20: no deer below", x.season(0, 0, 0), -2);
        x.cell(0, 5, 4);
        x.cell(0, 0, 10);
        Check.due("20: the first is no deer", x.season(0, 0, 0), -2);
        x.cell(0, 0, 0);
        Check.due("20: all are deer", x.season(0, 0, 0), 2);
        x.cell(0, 5, -1);
        Check.due("21: sheet", x.hunt(4, 9), -2);
        Check.due("21: missing", x.hunt(1, 9), -11);
        Check.due("21: no deer", x.hunt(0, 9), -2);
        x.cell(0, 5, 0);
        x.forest(0, 0, 999);
        Check.due("21: none such", x.hunt(0, 2), -5);
        Check.due("21: the last day", x.hunt(0, 0), -3);
        Check.due("21: nothing changed", x.count(1), 10);
    }

    private static void hunt() {
        HuntersIntroduced x = laidOut();
        x.forest(0, 0, 998);
        Check.due("21: honour then", x.hunt(0, 0), 50);
        Check.due("21: truly", x.count(1), 7);
        Check.due("21: truly shy", x.deer(0, 0), 65);
        Check.due("21: truly shy 3", x.deer(3, 0), 30);
        Check.due("21: a day more", x.count(2), 999);
        Check.due("21: the other stays", x.told(1, 0), 50);
        x.forest(0, 0, 1);
        Setting.row(x, 1, 2);
        Check.due("21: none, too", x.hunt(1, 1), 50);
        Check.due("21: a day more for none", x.count(2), 2);
        dayWithin();
    }

    private static void dayWithin() {
        HuntersIntroduced x = Setting.under("honours 0; hits day*10; wills 1;");
        Setting.hunters(x, 3);
        x.forest(1, 0, 20);
        x.forest(1, 1, 20);
        x.forest(0, 0, 1);
        Setting.row(x, 0, 0, 0, 1);
        x.hunt(0, 0);
        Check.due("21: the day is more behind it", x.count(1), 10);
        x.forest(1, 0, 20);
        Check.due("21: then", x.aims(0, 0), 2);
    }
}
