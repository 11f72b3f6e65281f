/** Promises 1 .. 5, 7 .. 13: the forest, the law, hunters. */
final class ForestPromises {
    private ForestPromises() {
    }

    static void run() {
        newObject();
        count();
        forest();
        deer();
        feed();
        force();
        asks();
        hunter();
        friends();
        put();
        told();
        hits();
    }

    private static void newObject() {
        HuntersIntroduced x = new HuntersIntroduced();
        int[] due = {0, 10, 0, 1, 0, 0};
        for (int what = 0; what < 6; what++) {
            Check.due("1: count " + what, x.count(what), due[what]);
        }
        for (int d = 0; d < 10; d++) {
            Check.due("1: shy", x.deer(d, 0), 0);
            Check.due("1: alive", x.deer(d, 1), 1);
            Check.due("1: holders", x.deer(d, 2), 0);
        }
        for (int s = 0; s < 4; s++) {
            Check.due("1: sheet missing", x.cell(s, 0, 0), -11);
        }
        Check.due("1: no image", x.back(), HuntersIntroduced.STATE);
    }

    private static void count() {
        HuntersIntroduced x = Setting.under("honours 1; hits 2; wills 3;");
        Setting.hunters(x, 0, 0);
        x.forest(2, 3, 0);
        x.forest(0, 99, 17);
        Setting.feed(x, "abc");
        int[] due = {2, 9, 17, 2, 1, 3};
        for (int what = 0; what < 6; what++) {
            Check.due("2: count " + what, x.count(what), due[what]);
        }
        Check.due("2: count -1", x.count(-1), -2);
        Check.due("2: count 6", x.count(6), -2);
    }

    private static void forest() {
        HuntersIntroduced x = new HuntersIntroduced();
        Check.due("3: day", x.forest(0, -77, 999), 0);
        Check.due("3: day was", x.forest(0, 10, 5), 999);
        Check.due("3: day above", x.forest(0, 0, 1000), -7);
        Check.due("3: day below", x.forest(0, 0, -1), -7);
        Check.due("3: day stays", x.count(2), 5);
        Check.due("3: shy", x.forest(1, 9, 99), 0);
        Check.due("3: shy was", x.forest(1, 9, 0), 99);
        Check.due("3: shy above", x.forest(1, 9, 100), -7);
        Check.due("3: shy below", x.forest(1, 9, -1), -7);
        Check.due("3: no such deer", x.forest(1, 10, 100), -5);
        Check.due("3: no such deer below", x.forest(2, -1, 5), -5);
        Check.due("3: alive", x.forest(2, 4, 0), 1);
        Check.due("3: not alive", x.forest(2, 4, 0), 0);
        Check.due("3: told", x.deer(4, 1), 0);
        Check.due("3: alive again", x.forest(2, 4, 1), 0);
        Check.due("3: told again", x.deer(4, 1), 1);
        Check.due("3: all are", x.count(1), 10);
        Check.due("3: alive 2", x.forest(2, 4, 2), -7);
        Check.due("3: what 3", x.forest(3, 0, 0), -5);
        Check.due("3: what -1", x.forest(-1, 0, 5000), -5);
    }

    private static void deer() {
        HuntersIntroduced x = new HuntersIntroduced();
        Setting.hunters(x, 1 << 9, 0, 1 << 9 | 1);
        x.forest(1, 9, 42);
        x.forest(2, 0, 0);
        Check.due("4: shy", x.deer(9, 0), 42);
        Check.due("4: alive", x.deer(9, 1), 1);
        Check.due("4: not alive", x.deer(0, 1), 0);
        Check.due("4: holders", x.deer(9, 2), 5);
        Check.due("4: holders of one not alive", x.deer(0, 2), 4);
        Setting.hunters(x, 1 << 9, 1 << 9, 512);
        Check.due("4: holders of all six", x.deer(9, 2), 5 | 8 | 16 | 32);
        x.put(1, 1, 1 << 9);
        Check.due("4: on all six cards", x.deer(9, 2), 63);
        Check.due("4: no deer", x.deer(10, 7), -5);
        Check.due("4: no deer below", x.deer(-1, 0), -5);
        Check.due("4: what", x.deer(0, 3), -7);
        Check.due("4: what below", x.deer(0, -1), -7);
    }

    private static void feed() {
        HuntersIntroduced x = new HuntersIntroduced();
        Check.due("5: n 0", x.feed(0, 1, 1, 1, 1, 1), -2);
        Check.due("5: n 6", x.feed(6, 1, 1, 1, 1, 1), -2);
        Check.due("5: a", x.feed(1, -1, 1, 1, 1, 1), -2);
        Check.due("5: b", x.feed(1, 1, 256, 1, 1, 1), -2);
        Check.due("5: c", x.feed(1, 1, 1, -1, 1, 1), -2);
        Check.due("5: d", x.feed(1, 1, 1, 1, 256, 1), -2);
        Check.due("5: e", x.feed(1, 1, 1, 1, 1, -1), -2);
        Check.due("5: none came", x.count(5), 0);
        Check.due("5: three", x.feed(3, 0, 255, 32, 255, 0), 3);
        for (int i = 0; i < 31; i++) {
            x.feed(5, 32, 32, 32, 32, 32);
        }
        Check.due("5: 158", x.count(5), 158);
        Check.due("5: full", x.feed(3, 32, 32, 32, 32, 32), -4);
        Check.due("5: bad ahead of full", x.feed(3, 32, 32, 32, 32, 256), -2);
        Check.due("5: none of it came", x.count(5), 158);
        Check.due("5: 160", x.feed(2, 32, 32, 32, 32, 32), 160);
        Check.due("5: full 1", x.feed(1, 32, 32, 32, 32, 32), -4);
        inOrder();
    }

    private static void inOrder() {
        HuntersIntroduced x = new HuntersIntroduced();
        x.feed(5, 'h', 'o', 'n', 'o', 'u');
        x.feed(4, 'r', 's', ' ', '7', 'x');
        Setting.feed(x, ";hits 8;wills 1;");
        Check.due("5: in order", x.text(), 1);
        x.force(1);
        Setting.hunters(x, 0);
        Check.due("5: in order says", x.asks(0, 0, -1), 7);
    }

    private static void force() {
        HuntersIntroduced x = new HuntersIntroduced();
        Check.due("7: of itself", x.force(0), 0);
        Check.due("7: none such", x.force(1), -2);
        Setting.text(x, "honours 9; hits 8; wills 0;");
        Check.due("7: was", x.force(1), 0);
        Check.due("7: law", x.count(4), 1);
        Setting.hunters(x, 0);
        Check.due("7: it rules", x.told(0, 6), 9);
        Check.due("7: was 1", x.force(0), 1);
        Check.due("7: it rules no more", x.told(0, 6), 3);
        Check.due("7: below", x.force(-1), -2);
        Check.due("7: above", x.force(2), -2);
    }

    private static void asks() {
        HuntersIntroduced x = Setting.under("honours honour*9999*shy; hits 0-100-shy; wills shy*2;");
        x.hunter(59, 3, 1);
        x.forest(1, 2, 5);
        Check.due("8: honours bound", x.asks(0, 0, 2), 99);
        Check.due("8: honours none", x.asks(0, 0, -1), 0);
        Check.due("8: hits bound", x.asks(1, 0, -1), -99);
        Check.due("8: hits bound of a deer", x.asks(1, 0, 2), -99);
        x.forest(1, 0, 1);
        x.forest(1, 9, 1);
        Check.due("8: honours of the first deer", x.asks(0, 0, 0), 99);
        Check.due("8: honours of the last deer", x.asks(0, 0, 9), 99);
        Check.due("8: wills of the first deer", x.asks(2, 0, 0), 1);
        Check.due("8: wills of the last deer", x.asks(2, 0, 9), 1);
        Check.due("8: wills", x.asks(2, 0, 2), 1);
        Check.due("8: wills none", x.asks(2, 0, -1), 0);
        Check.due("8: wills of a poacher is told by the text", x.told(0, 5), 1);
        Check.due("8: part", x.asks(3, 0, 0), -1000);
        Check.due("8: part below", x.asks(-1, 0, 0), -1000);
        Check.due("8: hunter", x.asks(0, 1, 0), -1000);
        Check.due("8: hunter below", x.asks(0, -1, 0), -1000);
        Check.due("8: deer", x.asks(0, 0, 10), -1000);
        Check.due("8: deer below", x.asks(0, 0, -2), -1000);
    }

    private static void hunter() {
        HuntersIntroduced x = new HuntersIntroduced();
        Check.due("9: kind", x.hunter(60, 0, 0), -2);
        Check.due("9: kind below", x.hunter(-1, 0, 0), -2);
        Check.due("9: honour", x.hunter(0, 100, 0), -2);
        Check.due("9: honour below", x.hunter(0, -1, 0), -2);
        Check.due("9: cards", x.hunter(0, 0, 1024), -2);
        Check.due("9: cards below", x.hunter(0, 0, -1), -2);
        Check.due("9: none came", x.count(0), 0);
        for (int p = 0; p < 6; p++) {
            Check.due("9: number", x.hunter(10 * p + 9 - p, 99 - p, 1023 - p), p);
        }
        Check.due("9: bad ahead of full", x.hunter(60, 0, 0), -2);
        Check.due("9: full", x.hunter(0, 0, 0), -4);
        for (int p = 0; p < 6; p++) {
            int[] due = {99 - p, 1023 - p, 0, p, 9 - p};
            for (int what = 0; what < 5; what++) {
                Check.due("9: told " + what, x.told(p, what), due[what]);
            }
            Check.due("9: by nobody", x.told(p, 7), -1);
        }
    }

    private static void friends() {
        HuntersIntroduced x = new HuntersIntroduced();
        Setting.hunters(x, 0, 0, 0);
        Check.due("10: met", x.friends(2, 0, 1), 0);
        Check.due("10: met each the other", x.told(0, 2), 4);
        Check.due("10: met each the other 2", x.told(2, 2), 1);
        Check.due("10: as it was", x.friends(0, 2, 1), 1);
        Check.due("10: not", x.friends(0, 2, 0), 1);
        Check.due("10: as it was not", x.friends(2, 0, 0), 0);
        Check.due("10: not each the other", x.told(0, 2) + x.told(2, 2), 0);
        x.friends(1, 2, 1);
        Check.due("10: two others, not", x.friends(1, 2, 0), 1);
        Check.due("10: two others, each", x.told(1, 2) + x.told(2, 2), 0);
        x.friends(1, 2, 1);
        Check.due("10: two others the other way, not", x.friends(2, 1, 0), 1);
        Check.due("10: two others the other way, each", x.told(1, 2) + x.told(2, 2), 0);
        x.friends(0, 1, 1);
        x.friends(0, 2, 1);
        x.friends(0, 2, 0);
        Check.due("10: of one the other stays", x.told(0, 2), 2);
        Check.due("10: refused by is", x.friends(0, 1, 2), -7);
        Check.due("10: it stays", x.friends(0, 1, 0), 1);
        Check.due("10: one and the same", x.friends(1, 1, 7), -5);
        Check.due("10: none such", x.friends(0, 3, 1), -5);
        Check.due("10: none such below", x.friends(-1, 0, 1), -5);
        Check.due("10: is", x.friends(0, 1, 2), -7);
        Check.due("10: is below", x.friends(0, 1, -1), -7);
        Check.due("10: nobody introduced them", x.told(0, 7), -1);
    }

    private static void put() {
        HuntersIntroduced x = new HuntersIntroduced();
        Setting.hunters(x, 3);
        Check.due("11: honour", x.put(0, 0, 99), 50);
        Check.due("11: honour was", x.put(0, 0, 0), 99);
        Check.due("11: honour above", x.put(0, 0, 100), -7);
        Check.due("11: honour below", x.put(0, 0, -1), -7);
        Check.due("11: cards", x.put(0, 1, 1023), 3);
        Check.due("11: cards was", x.put(0, 1, 0), 1023);
        Check.due("11: cards above", x.put(0, 1, 1024), -7);
        Check.due("11: cards below", x.put(0, 1, -1), -7);
        Check.due("11: what", x.put(0, 2, 0), -7);
        Check.due("11: what below", x.put(0, -1, 0), -7);
        Check.due("11: none such", x.put(1, 9, 0), -5);
        Check.due("11: none such below", x.put(-1, 0, 0), -5);
        Check.due("11: told", x.told(0, 0) + x.told(0, 1), 0);
    }

    /** GAINS and WILL of each kind, with MORE 4, under a text that gains 5. */
    private static void told() {
        int[] gains = {5, 9, 5, 18, -5, 5};
        int[] evenAndSo = {1, 1, 1, 1, 1, 0};
        int[] oddAndSo = {1, 1, 0, 1, 0, 0};
        int[] evenNotSo = {0, 1, 0, 1, 0, 1};
        HuntersIntroduced x = Setting.under("honours 5; hits 0; wills honour;");
        for (int k = 0; k < 6; k++) {
            x.hunter(10 * k + 4, 50, 0);
            Check.due("12: gains of kind " + k, x.told(k, 6), gains[k]);
            Check.due("12: will of kind " + k, x.told(k, 5), evenAndSo[k]);
            x.forest(0, 0, 7);
            Check.due("12: will on odd days of kind " + k, x.told(k, 5), oddAndSo[k]);
            x.forest(0, 0, 998);
            x.put(k, 0, 0);
            Check.due("12: will, if not so, of kind " + k, x.told(k, 5), evenNotSo[k]);
            x.put(k, 0, 50);
            Check.due("12: kind", x.told(k, 3), k);
            Check.due("12: more", x.told(k, 4), 4);
        }
        Check.due("12: none such", x.told(6, 9), -5000);
        Check.due("12: none such below", x.told(-1, 0), -5000);
        Check.due("12: what", x.told(0, 9), -7000);
        Check.due("12: what below", x.told(0, -1), -7000);
        toldSponsors();
    }

    private static void toldSponsors() {
        HuntersIntroduced shyOnes = Setting.under("honours shy; hits 0; wills shy;");
        shyOnes.forest(1, 0, 9);
        shyOnes.hunter(0, 0, 1);
        Check.due("12: gains of no deer", shyOnes.told(0, 6), 0);
        Check.due("12: wills of no deer", shyOnes.told(0, 5), 0);
        HuntersIntroduced x = new HuntersIntroduced();
        Setting.hunters(x, 1, 2 | 1, 4 | 512);
        Setting.met(x, 1, 12);
        Check.due("12: sponsors by friends of friends", x.told(0, 8), 2 | 4 | 512);
        x.forest(2, 2, 0);
        Check.due("12: to those alive alone", x.told(0, 8), 2 | 512);
        Check.due("12: gains without a deer", x.told(0, 6), 3);
        x.meet(1, 0, 2);
        Check.due("12: introduced by", x.told(2, 7), 1);
    }

    /** Hits of each kind, with MORE 4, honour 50, on a deer of one's cards and on another. */
    private static void hits() {
        int[] carded = {-29, -29, -25, -9, -5, 4};
        int[] other = {-14, -14, 0, -4, 20, -29};
        HuntersIntroduced x = Setting.under("honours 0; hits shy-79; wills 1;");
        for (int d = 0; d < 10; d++) {
            x.forest(1, d, 50);
        }
        for (int k = 0; k < 6; k++) {
            x.hunter(10 * k + 4, 50, 8);
            Check.due("13: of one's cards, kind " + k, x.hits(k, 3), carded[k]);
            Check.due("13: not of one's cards, kind " + k, x.hits(k, 9), other[k]);
        }
        x.forest(2, 3, 0);
        Check.due("13: alive or not", x.hits(0, 3), -29);
        Setting.text(x, "honours 0; hits shy; wills 1;");
        x.force(2);
        x.forest(1, 0, 77);
        x.put(0, 1, 1);
        Check.due("13: the first deer", x.hits(0, 0), 77);
        x.force(1);
        HuntersIntroduced poachers = new HuntersIntroduced();
        poachers.hunter(51, 7, 8);
        poachers.hunter(56, 7, 8);
        Check.due("13: one's own more", poachers.hits(0, 3), 1);
        Check.due("13: one's own more, too", poachers.hits(1, 3), 6);
        Check.due("13: no hunter", x.hits(6, 0), -1000);
        Check.due("13: no hunter below", x.hits(-1, 0), -1000);
        Check.due("13: no deer", x.hits(0, 10), -1000);
        Check.due("13: no deer below", x.hits(0, -1), -1000);
        x.force(0);
        x.put(4, 0, 99);
        Check.due("13: more than the text may say", x.hits(4, 3), 123);
    }
}
