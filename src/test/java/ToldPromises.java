/** Promises 26 .. 32: told seasons. */
final class ToldPromises {
    private ToldPromises() {
    }

    static void run() {
        judge();
        refusals();
        kinds();
        turned();
        honours();
        whose();
        laws();
        film();
        filmRefused();
    }

    /** Sheet 0: shots at 0 (missed), 1 (hit, 55), 2 (poached, 45); sheet 1 the honour behind them, as shorts. */
    private static HuntersIntroduced laidOut() {
        HuntersIntroduced x = new HuntersIntroduced();
        x.hunter(3, 50, 1 | 2);
        x.hunter(13, 50, 1 | 2);
        x.hunter(23, 50, 1 | 2);
        x.forest(1, 0, 60);
        x.forest(1, 1, 45);
        x.forest(1, 2, 20);
        Setting.row(x, 0, 0, 0, 1, 2);
        Setting.row(x, 1, 1, 50, 55, 45);
        return x;
    }

    private static void judge() {
        HuntersIntroduced x = laidOut();
        Check.due("26: all as told", x.judge(0, 1, 0), -1);
        x.cell(1, 2, 46);
        Check.due("26: the third", x.judge(0, 1, 0), 2);
        x.cell(1, 0, -50);
        Check.due("26: the first", x.judge(0, 1, 0), 0);
        Setting.row(x, 1, 2, 50);
        Check.due("26: fewer told", x.judge(0, 1, 0), -1);
        Setting.row(x, 1, 2);
        Check.due("26: none told", x.judge(0, 1, 0), -1);
        Check.due("26: in thought", x.count(1), 10);
        Setting.row(x, 2, 0, 9);
        x.put(0, 0, 19);
        Check.due("26: told by itself", x.judge(2, 2, 0), -1);
    }

    private static long call(HuntersIntroduced x, int which, int s, int told, int p) {
        switch (which) {
            case 0: return x.judge(s, told, p);
            case 1: return x.kinds(s, told, p, 0);
            case 2: return x.turned(s, told, p);
            case 3: return x.honours(s, told, p, 0);
            case 4: return x.laws(s, told, p);
            case 5: return x.kinds(s, told, p, 9);
            case 6: return x.honours(s, told, p, 9);
            default: return x.whose(s, told);
        }
    }

    private static void refusals() {
        for (int which = 0; which < 8; which++) {
            HuntersIntroduced x = laidOut();
            String of = "26 .. 31: refused " + which + ": ";
            Check.due(of + "told", call(x, which, 2, 4, 9), -2);
            Check.due(of + "told below", call(x, which, 2, -1, 9), -2);
            Check.due(of + "sheet", call(x, which, 4, 3, 9), -2);
            Check.due(of + "sheet below", call(x, which, -1, 3, 9), -2);
            Check.due(of + "missing", call(x, which, 2, 3, 9), -11);
            x.cell(0, 1, 10);
            Check.due(of + "no season", call(x, which, 0, 3, 9), -2);
            x.cell(0, 1, 9);
            Check.due(of + "told missing", call(x, which, 0, 3, 9), -11);
            Setting.row(x, 3, 0, 1, 2, 3, 4);
            Check.due(of + "tells more", call(x, which, 0, 3, 9), -2);
            if (which < 7) {
                Check.due(of + "none such", call(x, which, 0, 1, 3), -5);
                Check.due(of + "none such below", call(x, which, 0, 1, -1), -5);
            }
            if (which == 5 || which == 6) {
                Check.due(of + "sort, what", call(x, which, 0, 1, 0), -7);
            }
        }
        HuntersIntroduced x = laidOut();
        Check.due("27: sort below", x.kinds(0, 1, 0, -1), -7);
        Check.due("27: sort above", x.kinds(0, 1, 0, 2), -7);
        Check.due("29: what below", x.honours(0, 1, 0, -1), -7);
        Check.due("29: what above", x.honours(0, 1, 0, 2), -7);
    }

    private static void kinds() {
        HuntersIntroduced x = laidOut();
        // A snob of MORE 3 hits deer 1, but not deer 2, which isn't of the cards; a marksman hits deer 0, too.
        Check.due("27: kinds", x.kinds(0, 1, 0, 0), 1 | 2);
        Check.due("27: any more", x.kinds(0, 1, 0, 1), 1023);
        Check.due("27: kinds of a snob", x.kinds(0, 1, 2, 0), 1 | 2);
        Setting.row(x, 1, 1, 50, 55, 55);
        Check.due("27: as a snob", x.kinds(0, 1, 2, 0), 4);
        Setting.row(x, 0, 0, 0);
        x.forest(1, 0, 56);
        Setting.row(x, 1, 0, 56);
        Check.due("27: who hits it", x.kinds(0, 1, 2, 0), 16);
        Check.due("27: how much more", x.kinds(0, 1, 2, 1), 1023 - 63);
        Check.due("27: the kind stays", x.told(2, 3) * 10 + x.told(2, 4), 23);
    }

    private static void turned() {
        HuntersIntroduced x = laidOut();
        Check.due("28: turned", x.turned(0, 1, 0), 1023 - 2 - 4);
        Setting.row(x, 1, 1, 50, 55, 58);
        Check.due("28: the one that is missing", x.turned(0, 1, 0), 4);
        x.cell(1, 1, 50);
        x.cell(1, 2, 40);
        Check.due("28: the one too many", x.turned(0, 1, 0), 2);
        Check.due("28: cards stay", x.told(0, 1), 3);
    }

    private static void honours() {
        HuntersIntroduced x = laidOut();
        Check.due("29: just one", x.honours(0, 1, 0, 0), 1);
        Check.due("29: it", x.honours(0, 1, 0, 1), 50);
        Check.due("29: honour stays", x.told(0, 0), 50);
        Setting.row(x, 0, 0, 5);
        Setting.row(x, 1, 0, 0);
        Check.due("29: all that come to 0", x.honours(0, 1, 0, 0), 11);
        Check.due("29: the least", x.honours(0, 1, 0, 1), 0);
        Setting.row(x, 1, 0, 99);
        Check.due("29: none", x.honours(0, 1, 0, 0), 0);
        Check.due("29: no least", x.honours(0, 1, 0, 1), -1);
        Setting.row(x, 1, 0);
        Check.due("29: any", x.honours(0, 1, 0, 0), 100);
    }

    private static void whose() {
        HuntersIntroduced x = laidOut();
        Check.due("30: whose", x.whose(0, 1), 3);
        Setting.row(x, 1, 0);
        Check.due("30: of all", x.whose(0, 1), 7);
        HuntersIntroduced empty = new HuntersIntroduced();
        Setting.row(empty, 0, 0, 1);
        Setting.row(empty, 1, 0, 1);
        Check.due("30: nobody", empty.whose(0, 1), 0);
    }

    private static void laws() {
        HuntersIntroduced x = laidOut();
        Setting.text(x, "honours 3; hits 99; wills 1;");
        Setting.text(x, "honours 0; hits honour+0; wills 0;");
        Check.due("31: by which", x.laws(0, 1, 0), 1 | 4);
        x.force(1);
        Check.due("31: the law does not matter", x.laws(0, 1, 0), 1 | 4);
        Setting.row(x, 1, 1, 57);
        Check.due("31: not by the first", x.laws(0, 1, 0), 2);
        x.cell(1, 0, 58);
        Check.due("31: by none", x.laws(0, 1, 0), 0);
        Setting.row(x, 1, 1, 50, 55, 45);
        for (int t = 3; t < 6; t++) {
            Setting.text(x, "honours 0; hits honour; wills " + t + ";");
        }
        Check.due("31: of all six", x.laws(0, 1, 0), 1 | 4 | 8 | 16 | 32);
        Check.due("31: the law stays", x.count(4), 1);
        Setting.row(x, 1, 0);
        Check.due("31: all", x.laws(0, 1, 0), 63);
    }

    private static void film() {
        HuntersIntroduced x = laidOut();
        Setting.row(x, 2, 2, 1, 1, 1, 1, 1, 1);
        Check.due("32: how many", x.film(0, 2, 0), 3);
        Check.due("32: as told", x.judge(0, 2, 0), -1);
        Check.due("32: the season in thought", x.count(1), 10);
        Check.due("32: honour stays", x.told(0, 0), 50);
        Check.due("32: bytes", x.copy(2, 0, 0, 0, 1), 1);
        Check.due("32: just so many", x.cell(2, 3, 0), -12);
        Check.due("32: read as deer", x.season(2, 0, 0), -2);
        Check.due("32: on a missing one", x.film(1, 3, 0), -2);
        Setting.row(x, 1, 2);
        Check.due("32: none", x.film(1, 3, 0), 0);
        Check.due("32: it is there", x.cell(3, 0, 0), -12);
    }

    private static void filmRefused() {
        HuntersIntroduced x = laidOut();
        Check.due("32: told", x.film(2, 4, 9), -2);
        Check.due("32: told below", x.film(2, -1, 9), -2);
        Check.due("32: one and the same", x.film(0, 0, 0), -2);
        Check.due("32: one and the same, missing", x.film(2, 2, 9), -2);
        Check.due("32: sheet", x.film(4, 2, 9), -2);
        Check.due("32: sheet below", x.film(-1, 2, 9), -2);
        Check.due("32: missing", x.film(3, 2, 9), -11);
        Check.due("32: no season", x.film(1, 2, 9), -2);
        Check.due("32: none such", x.film(0, 2, 3), -5);
        Check.due("32: none such below", x.film(0, 2, -1), -5);
        Check.due("32: nothing changed", x.cell(2, 0, 0), -11);
    }
}
