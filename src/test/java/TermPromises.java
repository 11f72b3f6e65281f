/** The terms, 1 and 2: what their bounds, cuts and orders are, behind the calls that show them. */
final class TermPromises {
    private TermPromises() {
    }

    static void run() {
        asOneComes();
        saidWithinBounds();
        namesAtTheirEnds();
        cutTowardZero();
        evenDaysAlone();
        kindsThatWill();
        honourOfTheThird();
        farByWhom();
        sponsors();
        shotsInOrder();
        seasonsOneBehindTheOther();
        lots();
        sheets();
    }

    // ---- 1

    private static void asOneComes() {
        HuntersIntroduced x = new HuntersIntroduced();
        Setting.hunters(x, 1023, 0);
        Setting.met(x, 1);
        x.present(0, 1, 9);
        Check.due("1: whom one has met does not tell who comes", x.hunter(59, 99, 1023), 2);
        int[] due = {99, 1023, 0, 5, 9};
        for (int what = 0; what < due.length; what++) {
            Check.due("1: as one comes " + what, x.told(2, what), due[what]);
        }
        Check.due("1: nobody introduced who comes", x.told(2, 7), -1);
        x.image();
        Setting.hunters(x, 7);
        Setting.met(x, 3, 13, 23);
        Check.due("1: met", x.meet(0, 2, 3), -3);
        x.friends(0, 2, 1);
        x.friends(2, 3, 0);
        Check.due("1: introduced", x.meet(0, 2, 3) > 0 ? 1 : 0, 1);
        x.back();
        Check.due("1: behind back(), another comes", x.hunter(12, 34, 5), 3);
        int[] other = {34, 5, 0, 1, 2};
        for (int what = 0; what < other.length; what++) {
            Check.due("1: as another comes " + what, x.told(3, what), other[what]);
        }
        Check.due("1: nobody introduced that one", x.told(3, 7), -1);
        Check.due("1: nobody has met that one", (x.told(0, 2) | x.told(1, 2) | x.told(2, 2)) & 8, 0);
    }

    private static void says(String e, int inBounds, int wills) {
        HuntersIntroduced x = Setting.under("honours " + e + "; hits " + e + "; wills " + e + ";");
        x.hunter(0, 50, 1023);
        Check.due("1: honours " + e, x.asks(0, 0, 0), inBounds);
        Check.due("1: gains " + e, x.told(0, 6), inBounds);
        Check.due("1: hits " + e, x.asks(1, 0, 0), inBounds);
        Check.due("1: one hits " + e, x.hits(0, 0), inBounds);
        Check.due("1: wills " + e, x.asks(2, 0, 0), wills);
        Check.due("1: one will " + e, x.told(0, 5), wills);
    }

    private static void saidWithinBounds() {
        says("0", 0, 0);
        says("-0", 0, 0);
        says("1", 1, 1);
        says("-1", -1, 1);
        says("98", 98, 1);
        says("99", 99, 1);
        says("100", 99, 1);
        says("101", 99, 1);
        says("-99", -99, 1);
        says("-100", -99, 1);
        says("-101", -99, 1);
        says("9999", 99, 1);
        says("-9999", -99, 1);
        // 2 to the power of 31 wraps to the least int, of 32 to 0.
        says("8192*8192*32", -99, 1);
        says("8192*8192*32-1", 99, 1);
        says("8192*8192*64", 0, 0);
        says("-(8192*8192*32)", -99, 1);
        says("0-8192*8192*32-1", 99, 1);
    }

    private static void named(String name, HuntersIntroduced x, int p, int d, int want) {
        Check.due("1: " + name + " of " + p + " and " + d, x.asks(1, p, d), want);
    }

    private static void namesAtTheirEnds() {
        HuntersIntroduced shy = Setting.under("honours shy; hits shy; wills shy;");
        shy.hunter(0, 0, 0);
        for (int d = 0; d < 10; d++) {
            shy.forest(1, d, 99 - 9 * d);
            named("shy", shy, 0, d, 99 - 9 * d);
            Check.due("1: honours of a deer that is asked for", shy.asks(0, 0, d), 99 - 9 * d);
        }
        named("shy", shy, 0, -1, 0);
        Check.due("1: shy of none", shy.told(0, 6), 0);
        Check.due("1: wills of shy of none", shy.told(0, 5), 0);
        HuntersIntroduced x = Setting.under("honours 0; hits honour; wills 1;");
        x.hunter(0, 0, 0);
        x.hunter(9, 99, 1023);
        named("honour", x, 0, 0, 0);
        named("honour", x, 1, 9, 99);
        Setting.text(x, "honours 0; hits met; wills 1;");
        x.force(2);
        Setting.hunters(x, 0, 0, 0, 0);
        named("met", x, 0, 0, 0);
        Setting.met(x, 1, 2, 3, 4, 5);
        named("met", x, 0, 0, 5);
        named("met", x, 5, 0, 1);
        Setting.text(x, "honours 0; hits cards; wills 1;");
        x.force(3);
        named("cards", x, 0, 0, 0);
        named("cards", x, 1, 0, 10);
        x.forest(2, 0, 0);
        named("cards, alive or not", x, 1, 0, 10);
        Setting.text(x, "honours 0; hits day-900; wills 1;");
        x.force(4);
        x.forest(0, 0, 999);
        named("day", x, 1, 0, 99);
        x.forest(0, 0, 900);
        named("day", x, 1, 0, 0);
        Setting.text(x, "honours 0; hits more; wills 1;");
        x.force(5);
        named("more", x, 0, -1, 0);
        named("more", x, 1, -1, 9);
    }

    private static void hits(int kind, int said, int carded, int other) {
        HuntersIntroduced x = Setting.under("honours 0; hits " + said + "; wills 1;");
        x.hunter(10 * kind, 0, 1);
        String of = "1: kind " + kind + " by " + said;
        Check.due(of + " hits one of the cards", x.hits(0, 0), carded);
        Check.due(of + " hits another", x.hits(0, 9), other);
    }

    private static void cutTowardZero() {
        hits(0, 99, 99, 49);
        hits(0, 1, 1, 0);
        hits(0, -1, -1, 0);
        hits(0, -99, -99, -49);
        hits(1, 7, 7, 3);
        hits(1, -7, -7, -3);
        hits(3, 2, 0, 0);
        hits(3, 3, 1, 0);
        hits(3, 5, 1, 0);
        hits(3, 6, 2, 1);
        hits(3, -2, 0, 0);
        hits(3, -3, -1, 0);
        hits(3, -7, -2, -1);
        hits(3, 99, 33, 16);
        hits(2, -99, -99, 0);
        hits(4, -99, -79, 20);
        hits(5, -99, 0, -99);
        hits(5, 99, 0, 99);
        HuntersIntroduced most = Setting.under("honours 99; hits 99; wills 1;");
        for (int k = 0; k < 6; k++) {
            most.hunter(10 * k + 9, 0, 2);
        }
        int[] gains = {99, 108, 99, 216, -99, 99};
        int[] carded = {99, 99, 108, 33, 128, 9};
        int[] other = {49, 49, 0, 16, 20, 99};
        for (int k = 0; k < 6; k++) {
            Check.due("1: kind " + k + " gains beyond what a text says", most.told(k, 6), gains[k]);
            Check.due("1: kind " + k + " hits beyond it", most.hits(k, 1), carded[k]);
            Check.due("1: kind " + k + " hits another", most.hits(k, 0), other[k]);
        }
    }

    private static void evenDaysAlone() {
        HuntersIntroduced x = new HuntersIntroduced();
        for (int k = 0; k < 6; k++) {
            x.hunter(10 * k, 50, 0);
        }
        int[] even = {1, 1, 1, 1, 1, 0};
        int[] odd = {1, 1, 0, 1, 0, 0};
        for (int day : new int[] {0, 1, 2, 3, 500, 501, 998, 999}) {
            x.forest(0, 0, day);
            for (int k = 0; k < 6; k++) {
                Check.due("1: kind " + k + " will on day " + day, x.told(k, 5), (day % 2 == 0 ? even : odd)[k]);
            }
        }
    }

    /** Of each kind, a third who wills introduces and presents, one who doesn't can't; the others' will is nothing. */
    private static void kindsThatWill() {
        HuntersIntroduced so = Setting.under("honours 0; hits 0; wills 1;");
        HuntersIntroduced not = Setting.under("honours 0; hits 0; wills 0;");
        for (int kind = 0; kind < 6; kind++) {
            for (int day = 0; day < 2; day++) {
                boolean always = kind == 1 || kind == 3;
                boolean even = day == 0 || (kind != 2 && kind != 4);
                introduces(so, kind, day, always || (even && kind != 5));
                introduces(not, kind, day, always || kind == 5);
            }
        }
        HuntersIntroduced x = Setting.under("honours 0; hits 0; wills honour;");
        Setting.hunters(x, 1, 0, 0);
        Setting.met(x, 1, 2);
        x.put(1, 0, 0);
        x.put(2, 0, 0);
        Check.due("2: the third will, the others not", x.present(0, 1, 0), 50);
        Check.due("2: the third will", x.meet(0, 1, 2), 50);
        HuntersIntroduced y = Setting.under("honours 0; hits 0; wills honour;");
        Setting.hunters(y, 1, 0, 0);
        Setting.met(y, 1, 2);
        y.put(0, 0, 0);
        Check.due("2: the others will, the third not", y.meet(0, 1, 2), -3);
        Check.due("2: nor presents", y.present(0, 1, 0), -3);
    }

    private static void introduces(HuntersIntroduced x, int kind, int day, boolean is) {
        x.image();
        x.forest(0, 0, day);
        x.hunter(10 * kind, 50, 1);
        Setting.hunters(x, 0, 0);
        Setting.met(x, 1, 2);
        String of = " of kind " + kind + " on day " + day + " (" + is + ")";
        Check.due("2: introduces" + of, x.meet(0, 1, 2), is ? 50 : -3);
        Check.due("2: presents" + of, x.present(0, 2, 0), is ? 50 : -3);
        Check.due("2: met" + of, x.told(1, 2), is ? 5 : 1);
        Check.due("2: presented" + of, x.told(2, 1), is ? 1 : 0);
        Check.due("2: introduced by" + of, x.told(2, 7), is ? 0 : -1);
        x.forest(0, 0, 0);
        Check.due("2: none again", x.back(), 0);
    }

    // ---- 2

    private static void third(String honours, int kindMore, int much, int want) {
        HuntersIntroduced x = Setting.under("honours " + honours + "; hits 0; wills 1;");
        x.hunter(kindMore, much, 512);
        Setting.hunters(x, 0, 0);
        Setting.met(x, 1, 2);
        String of = "2: " + much + " and what " + kindMore + " gains by " + honours;
        Check.due(of + ", by a meeting", x.meet(0, 1, 2), want);
        Check.due(of + ", told", x.told(0, 0), want);
        x.put(0, 0, much);
        Check.due(of + ", by presenting", x.present(0, 2, 9), want);
        Check.due(of + ", told again", x.told(0, 0), want);
        Check.due(of + ", of none else", x.told(1, 0) + x.told(2, 0), 100);
    }

    private static void honourOfTheThird() {
        third("1", 0, 98, 99);
        third("1", 0, 99, 99);
        third("2", 0, 98, 99);
        third("0", 0, 99, 99);
        third("-1", 0, 1, 0);
        third("-1", 0, 0, 0);
        third("-2", 0, 1, 0);
        third("0", 0, 0, 0);
        third("-99", 0, 99, 0);
        third("99", 0, 0, 99);
        third("-9", 19, 7, 7);
        third("99", 39, 0, 99);
        third("5", 43, 5, 0);
        third("4", 43, 5, 1);
        third("-5", 43, 94, 99);
    }

    private static void farByWhom() {
        HuntersIntroduced x = Setting.under("honours 0; hits 0; wills honour;");
        Setting.hunters(x, 0, 0, 0, 0, 0, 0);
        Check.due("2: nobody far", x.circle(0, 6), 0);
        Setting.met(x, 1, 2, 13, 23, 34, 45);
        x.put(1, 0, 0);
        Check.due("2: by another who wills", x.circle(0, 2), 2 | 4 | 8);
        x.put(2, 0, 0);
        Check.due("2: by nobody who wills", x.circle(0, 6), 2 | 4);
        x.put(2, 0, 1);
        x.put(3, 0, 0);
        Check.due("2: further on by nobody", x.circle(0, 6), 2 | 4 | 8);
        x.put(3, 0, 1);
        Check.due("2: far by 4", x.circle(0, 4), 2 | 4 | 8 | 16 | 32);
        Check.due("2: not by 3", x.circle(0, 3), 2 | 4 | 8 | 16);
        Check.due("2: one who won't is far", x.circle(5, 6), 31);
        x.put(0, 0, 0);
        Check.due("2: one's own will leads nowhere", x.circle(0, 6), 62);
    }

    private static void sponsors() {
        HuntersIntroduced x = Setting.under("honours 0; hits 0; wills honour;");
        Setting.hunters(x, 1, 1, 0, 0, 1, 0);
        Setting.met(x, 1, 12, 23, 34, 45);
        Check.due("2: the nearest, not the first", x.way(5, 0, 2), 4);
        Check.due("2: so far", x.way(5, 0, 0), 1);
        x.put(4, 0, 0);
        Check.due("2: who wills not leads to nobody", x.way(5, 0, 2), -1);
        x.put(4, 0, 50);
        x.put(4, 1, 0);
        Check.due("2: further on", x.way(5, 0, 2), 1);
        Check.due("2: by these", x.way(5, 0, 1), 5432);
        x.put(1, 0, 0);
        Check.due("2: who has it and won't, in between", x.way(5, 0, 2), -1);
        x.put(1, 0, 50);
        x.put(1, 1, 0);
        Check.due("2: the first of all", x.way(5, 0, 2), 0);
        Check.due("2: five far", x.way(5, 0, 0), 5);
        Check.due("2: by five", x.way(5, 0, 1), 54321);
        Check.due("2: told so", x.told(5, 8), 1);
        x.friends(2, 3, 0);
        Check.due("2: not far by any", x.way(5, 0, 2), -1);
        Check.due("2: no digits", x.way(5, 0, 1), -1);
        Check.due("2: no number", x.way(5, 0, 0), -1);
        Check.due("2: told none", x.told(5, 8), 0);
        x.friends(2, 3, 1);
        x.forest(2, 0, 0);
        Check.due("2: not alive", x.way(5, 0, 0), -1);
        Check.due("2: told not alive", x.told(5, 8), 0);
        Check.due("2: not oneself", x.told(0, 8), 0);
    }

    private static void shotsInOrder() {
        HuntersIntroduced x = new HuntersIntroduced();
        Setting.hunters(x, 1);
        x.forest(1, 0, 90);
        x.forest(2, 0, 0);
        Check.due("2: not alive ahead of missed", x.shoot(0, 0), 0);
        Check.due("2: not more shy", x.deer(0, 0), 90);
        Check.due("2: nor aimed at", x.aims(0, 0), 0);
        x.forest(2, 0, 1);
        Check.due("2: missed ahead of hit", x.shoot(0, 0), 1);
        x.forest(1, 5, 26);
        Check.due("2: missed ahead of poached", x.shoot(0, 5), 1);
        Check.due("2: honour stays", x.told(0, 0), 50);
        int[] shy = {0, 9, 10, 19, 90, 94, 95, 99};
        int[] more = {1, 1, 2, 2, 10, 10, 10, 10};
        HuntersIntroduced all = Setting.under("honours 0; hits 99; wills 1;");
        Setting.hunters(all, 1023);
        HuntersIntroduced none = Setting.under("honours 0; hits -99; wills 1;");
        Setting.hunters(none, 1023);
        for (int i = 0; i < shy.length; i++) {
            all.forest(1, i, shy[i]);
            all.put(0, 0, 20);
            Check.due("2: hit", all.shoot(0, i), 2);
            Check.due("2: a tenth, cut, of " + shy[i], all.told(0, 0), 20 + more[i]);
            Check.due("2: as shy", all.deer(i, 0), shy[i]);
            none.forest(1, i, shy[i]);
            Check.due("2: missed", none.shoot(0, i), 1);
            Check.due("2: 5 more shy than " + shy[i], none.deer(i, 0), Math.min(99, shy[i] + 5));
        }
        for (int honour : new int[] {88, 89, 90, 98, 99}) {
            all.forest(2, 7, 1);
            all.put(0, 0, honour);
            all.shoot(0, 7);
            Check.due("2: 99 at most, from " + honour, all.told(0, 0), Math.min(99, honour + 10));
        }
        all.put(0, 1, 0);
        all.forest(1, 7, 0);
        for (int honour : new int[] {0, 1, 9, 10, 11, 99}) {
            all.forest(2, 7, 1);
            all.put(0, 0, honour);
            Check.due("2: poached", all.shoot(0, 7), 3);
            Check.due("2: 10 less, 0 at least, from " + honour, all.told(0, 0), Math.max(0, honour - 10));
        }
    }

    private static void seasonsOneBehindTheOther() {
        HuntersIntroduced x = new HuntersIntroduced();
        x.hunter(24, 50, 1 << 9 | 1);
        x.forest(1, 9, 54);
        x.forest(1, 0, 56);
        Setting.row(x, 0, 0, 0, 0, 9, 0);
        // Shy 56, 61, then 66, hits 54, then 60 by the honour of the hit: 0 is missed each time.
        Check.due("2: hit", x.season(0, 0, 0), 1);
        Check.due("2: missed", x.season(0, 0, 2), 3);
        Check.due("2: honour", x.season(0, 0, 3), 56);
        Check.due("2: alive", x.season(0, 0, 4), 511);
        x.forest(1, 0, 45);
        Setting.row(x, 0, 0, 9, 0, 9, 1, 1, 0);
        Check.due("2: each but once", x.season(0, 0, 0) * 10 + x.season(0, 0, 1), 21);
        Check.due("2: none missed", x.season(0, 0, 2), 0);
        Check.due("2: truly", x.hunt(0, 0), 51);
        int[] forty = new int[40];
        Setting.row(x, 0, 2, forty);
        x.forest(2, 0, 1);
        x.forest(1, 0, 99);
        Check.due("2: forty shots", x.season(0, 0, 2), 40);
        Check.due("2: forty filmed", x.film(0, 1, 0), 40);
        Check.due("2: the fortieth", x.cell(1, 39, 51), 1);
        Check.due("2: forty as told", x.judge(0, 1, 0), -1);
        x.cell(1, 39, 50);
        Check.due("2: the fortieth is otherwise", x.judge(0, 1, 0), 39);
        Check.due("2: forty, truly", x.hunt(0, 0), 51);
    }

    private static void lots() {
        HuntersIntroduced x = Setting.under("honours 0; hits 99; wills 1;");
        Setting.hunters(x, 1023, 1023, 0, 1023);
        // The lots of seed 0, modulo 6 and 10: 48271 (1), 182605794 (4), 1291394886 (0), 1914720637 (7).
        Check.due("2: no shots", x.drawn(0, 0, 0), 1023);
        Check.due("2: no shots hit", x.drawn(0, 0, 1), 0);
        Check.due("2: the first shot", x.drawn(0, 1, 0), 1023 - 16);
        Check.due("2: the second shot", x.drawn(0, 2, 0), 1023 - 16 - 128);
        Check.due("2: both hit", x.drawn(0, 2, 1), 2);
        x.put(1, 1, 0);
        Check.due("2: one poached", x.drawn(0, 2, 1), 1);
        Check.due("2: who is no hunter shoots at none", new HuntersIntroduced().drawn(0, 60, 1), 0);
        Check.due("2: odds of one seed", x.odds(0, 1, 10, 0), 0);
        Check.due("2: odds of one seed, below", x.odds(0, 1, 10, 1), 1);
        Check.due("2: odds of 0 or more", x.odds(0, 1, 0, 0), 1);
    }

    private static void sheets() {
        HuntersIntroduced x = new HuntersIntroduced();
        for (int s = 0; s < 4; s++) {
            Check.due("2: missing at first", x.cell(s, 0, 0), -11);
            Check.due("2: missing to copy", x.copy(s, 0, s, 0, 0), -11);
        }
        x.hunter(0, 0, 0);
        Setting.row(x, 1, 2);
        int[] noDeer = {-1, 10, 127, -128, 255};
        for (int v : noDeer) {
            for (int i = 0; i < 3; i++) {
                Setting.row(x, 0, 0, 0, 9, 0);
                x.cell(0, i, v);
                Check.due("2: " + v + " at " + i + " is no deer", x.season(0, 0, 0), -2);
                Check.due("2: nor told " + v, x.judge(0, 1, 0), -2);
            }
        }
        Setting.row(x, 0, 0, 256, 9, 256 + 9);
        Check.due("2: bytes are deer by their lowest bits", x.season(0, 0, 1), 2);
        Setting.row(x, 0, 1, 65536, 9, 65536 + 9);
        Check.due("2: shorts are deer by their lowest bits", x.season(0, 0, 1), 2);
        Setting.row(x, 0, 1, 256, 9, 9);
        Check.due("2: shorts have more than 8", x.season(0, 0, 1), -2);
        Setting.row(x, 0, 2, 65536, 9, 9);
        Check.due("2: ints have more than 16", x.season(0, 0, 1), -2);
    }
}
