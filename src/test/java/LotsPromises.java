/** Promises 33 .. 36: seasons by lots, the image. */
final class LotsPromises {
    private LotsPromises() {
    }

    static void run() {
        drawn();
        odds();
        image();
        imageKeeps();
    }

    /** Six hunters who hit all, the first three with all cards. */
    private static HuntersIntroduced laidOut() {
        HuntersIntroduced x = Setting.under("honours 0; hits 99; wills 1;");
        Setting.hunters(x, 1023, 1023, 1023, 0, 0, 0);
        return x;
    }

    /** Who is alive behind n shots by a seed, and 10000 times how many were hit, of so many hunters as in laidOut(). */
    private static long shots(int seed, int n, int hunters) {
        long lot = seed + 1L;
        int alive = 1023;
        int hit = 0;
        for (int i = 0; i < n; i++) {
            lot = lot * 48271 % 2147483647;
            int p = (int) (lot % 6);
            lot = lot * 48271 % 2147483647;
            int deer = 1 << (int) (lot % 10);
            if (p < hunters && (alive & deer) != 0) {
                hit += p < 3 ? 1 : 0;
                alive -= deer;
            }
        }
        return alive + 10000L * hit;
    }

    private static void drawn() {
        HuntersIntroduced x = laidOut();
        int[] seeds = {0, 1, 7, 4321, 99999};
        int[] numbers = {0, 1, 2, 5, 20, 60};
        for (int seed : seeds) {
            for (int n : numbers) {
                long due = shots(seed, n, 6);
                Check.due("33: alive by " + seed + ", " + n, x.drawn(seed, n, 0), due % 10000);
                Check.due("33: hit by " + seed + ", " + n, x.drawn(seed, n, 1), due / 10000);
            }
        }
        // The lots of seed 0: 48271 (hunter 1), 182605794 (deer 4).
        Check.due("33: the first two lots", x.drawn(0, 1, 0), 1023 - 16);
        Check.due("33: in thought", x.count(1), 10);
        Check.due("33: no hunters", new HuntersIntroduced().drawn(3, 60, 0), 1023);
        Check.due("33: seed", x.drawn(100000, 1, 0), -2);
        Check.due("33: seed below", x.drawn(-1, 1, 0), -2);
        Check.due("33: n", x.drawn(0, 61, 0), -2);
        Check.due("33: n below", x.drawn(0, -1, 0), -2);
        Check.due("33: what", x.drawn(0, 1, 2), -2);
        Check.due("33: what below", x.drawn(0, 1, -1), -2);
        HuntersIntroduced one = Setting.under("honours 0; hits 99; wills 1;");
        Setting.hunters(one, 1023);
        Check.due("33: if there is one", one.drawn(77, 60, 0), shots(77, 60, 1) % 10000);
    }

    private static void odds() {
        HuntersIntroduced x = laidOut();
        for (int least = 0; least <= 10; least++) {
            long many = 0;
            for (int seed = 99990; seed < 99990 + 40; seed++) {
                many += Long.bitCount(shots(seed, 20, 6) % 10000) >= least ? 1 : 0;
            }
            long divisor = java.math.BigInteger.valueOf(many).gcd(java.math.BigInteger.valueOf(40)).longValue();
            Check.due("34: above, " + least, x.odds(99990, 40, least, 0), many / divisor);
            Check.due("34: below, " + least, x.odds(99990, 40, least, 1), 40 / divisor);
        }
        for (int seeds = 1; seeds <= 40; seeds++) {
            long many = 0;
            for (int seed = 0; seed < seeds; seed++) {
                many += Long.bitCount(shots(seed, 20, 6) % 10000) >= 2 ? 1 : 0;
            }
            long divisor = java.math.BigInteger.valueOf(many).gcd(java.math.BigInteger.valueOf(seeds)).longValue();
            Check.due("34: above, of " + seeds, x.odds(0, seeds, 2, 0), many / divisor);
            Check.due("34: below, of " + seeds, x.odds(0, seeds, 2, 1), seeds / divisor);
        }
        long no = HuntersIntroduced.NO;
        Check.due("34: in thought", x.count(1), 10);
        Check.due("34: seed", x.odds(100000, 1, 0, 0), no);
        Check.due("34: seed below", x.odds(-1, 1, 0, 0), no);
        Check.due("34: seeds", x.odds(0, 41, 0, 0), no);
        Check.due("34: no seeds", x.odds(0, 0, 0, 0), no);
        Check.due("34: least", x.odds(0, 1, 11, 0), no);
        Check.due("34: least below", x.odds(0, 1, -1, 0), no);
        Check.due("34: part", x.odds(0, 1, 0, 2), no);
        Check.due("34: part below", x.odds(0, 1, 0, -1), no);
    }

    private static void image() {
        HuntersIntroduced x = new HuntersIntroduced();
        Check.due("36: there is none", x.back(), -3);
        Check.due("35: nobody", x.image(), 0);
        Setting.hunters(x, 1, 2);
        Check.due("36: none that came since", x.back(), 0);
        Check.due("36: nobody", x.count(0), 0);
        Setting.hunters(x, 1, 2);
        Setting.met(x, 1);
        Check.due("35: how many", x.image(), 2);
        x.hunter(55, 9, 9);
        Setting.met(x, 2, 12);
        Check.due("36: as many", x.back(), 2);
        Check.due("36: nobody met who is none", x.told(0, 2), 2);
        Check.due("36: there is none such", x.told(2, 0), -5000);
        Check.due("36: a number again", x.hunter(44, 7, 3), 2);
        Check.due("36: another kind", x.told(2, 3), 4);
        Check.due("36: nobody met", x.told(2, 2), 0);
        Check.due("36: once more", x.back(), 2);
    }

    private static void imageKeeps() {
        HuntersIntroduced x = Setting.under("honours 3; hits 99; wills 1;");
        Setting.hunters(x, 1, 2, 4);
        Setting.met(x, 1, 2);
        x.forest(0, 0, 12);
        x.forest(1, 3, 33);
        x.forest(2, 4, 0);
        x.present(0, 1, 0);
        x.image();
        Check.due("36: a meeting since", x.meet(0, 1, 2), 56);
        x.shoot(0, 0);
        x.forest(0, 0, 13);
        x.forest(1, 3, 44);
        x.forest(2, 4, 1);
        x.put(1, 1, 1023);
        x.force(0);
        Setting.text(x, "honours 1; hits 1; wills 1;");
        Setting.feed(x, "xyz");
        Setting.row(x, 1, 1, 1, 2);
        Check.due("36: back", x.back(), 3);
        Check.due("36: honour", x.told(0, 0), 53);
        Check.due("36: met", x.told(1, 2), 1);
        Check.due("36: cards", x.told(1, 1), 3);
        Check.due("36: by whom", x.told(1, 7), 0);
        Check.due("36: by nobody", x.told(2, 7), -1);
        Check.due("36: day", x.count(2), 12);
        Check.due("36: shy", x.deer(3, 0), 33);
        Check.due("36: alive", x.deer(0, 1), 1);
        Check.due("36: not alive", x.deer(4, 1), 0);
        Check.due("36: the law", x.count(4), 1);
        Check.due("36: texts stay", x.count(3), 3);
        Check.due("36: the tape stays", x.count(5), 3);
        Check.due("36: sheets stay", x.cell(1, 1, 0), 1);
    }
}
