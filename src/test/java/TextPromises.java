/** Promise 6: texts, what they say, and their faults. */
final class TextPromises {
    private TextPromises() {
    }

    static void run() {
        says();
        faults();
        openOnes();
        full();
        bytes();
        oneBehindTheOther();
    }

    /** What a hunter of MORE 7, honour 40 and three cards, who met one other, says on day 12 of a deer shy 6. */
    private static void due(String e, int want) {
        HuntersIntroduced x = Setting.under("honours 0; hits " + e + "; wills 0;");
        x.hunter(7, 40, 7);
        x.hunter(0, 0, 0);
        x.friends(0, 1, 1);
        x.forest(0, 0, 12);
        x.forest(1, 4, 6);
        Check.due("6: " + e, x.asks(1, 0, 4), want);
    }

    private static void says() {
        due("honour", 40);
        due("shy", 6);
        due("met", 1);
        due("cards", 3);
        due("day", 12);
        due("more", 7);
        due("0042", 42);
        due("2+3*4", 14);
        due("(2+3)*4", 20);
        due("20-3-4", 13);
        due("2*-3", -6);
        due("- -5", 5);
        due("--5", 5);
        due("1-(-2)", 3);
        due("-(1+2)*3", -9);
        due("not 0", 1);
        due("not 5", 0);
        due("not not 5", 1);
        due("not 3<2", 1);
        due("not 0 and 0", 0);
        due("3<4", 1);
        due("4<4", 0);
        due("-1<0", 1);
        due("4=2+2", 1);
        due("4=5", 0);
        due("2 and 4", 1);
        due("2 and 0", 0);
        due("0 or 4", 1);
        due("0 or 0", 0);
        due("4 and 2", 1);
        due("0 and 4", 0);
        due("0 and 0", 0);
        due("-1 and -1", 1);
        due("4 or 0", 1);
        due("4 or 2", 1);
        due("-1 or 0", 1);
        due("not -1", 0);
        due("0=0", 1);
        due("5=4", 0);
        due("5<4", 0);
        due("-5 < -4", 1);
        due("3-4*2", -5);
        due("3*4-2", 10);
        due("3*(4-2)", 6);
        due("0 and 0 or 1", 1);
        due("1 or 0 and 0", 1);
        due("not (0 and 0)", 1);
        due("(not 0)+(not 0)", 2);
        due("1 or 1 and 0", 1);
        due("(1 or 1) and 0", 0);
        due("1<2 or 0", 1);
        due("(1<2)=1", 1);
        due("9999*9999*22<0", 1);
        due("9999*9999*22", -99);
        due("9999*9999*9999*9999<0", 0);
        due("9999*9999*9999 - 9999*9999*9999 + 5", 5);
        due("9999", 99);
        due("-9999", -99);
        due("honour-(shy\n+met)*cards", 19);
        due("2and 3", 1);
        due("12or0", 1);
    }

    private static void fault(String text, int place) {
        HuntersIntroduced x = new HuntersIntroduced();
        Check.due("6: fault: " + text, Setting.text(x, text), -100 - place);
        Check.due("6: the tape is empty behind a fault", x.count(5), 0);
        Check.due("6: no text by a fault", x.count(3), 1);
    }

    private static void faults() {
        fault("", 0);
        fault("  \n ", 4);
        fault("honours", 7);
        fault("honours 3", 9);
        fault("honours 3;", 10);
        fault("honours 3; ", 11);
        fault("hits 3;", 0);
        fault("honour 3;", 0);
        fault("honours 3; wills", 11);
        fault("honours;", 7);
        fault("honours 3 4;", 10);
        fault("honours 12345;", 8);
        fault("honours 3x;", 9);
        fault("honours X;", 8);
        fault("honours 3\t;", 9);
        fault("honours\r3;", 7);
        fault("honours 3 > 2;", 10);
        fault("honours deer;", 8);
        fault("honours shyz;", 8);
        fault("honours dayz 1;", 8);
        fault("honours a;", 8);
        fault(";".repeat(160), 0);
        fault("honours " + "-7".repeat(76), 160);
        fault("honours hits;", 8);
        fault("honours 1<2<3;", 11);
        fault("honours 1=2<3;", 11);
        fault("honours 1+not 2;", 10);
        fault("honours -not 2;", 9);
        fault("honours 1*;", 10);
        fault("honours (1;", 10);
        fault("honours 1);", 9);
        fault("honours ();", 9);
        fault("honours +1;", 8);
        fault("honours not;", 11);
        fault("honours 1 and;", 13);
        fault("honours 1; hits 1; wills 1; 5", 28);
        fault("honours 1; hits 1; wills 1;;", 27);
        fault("honours 1; hits 1; wills 1; #", 28);
        fault("honours 1; hits 1; wills 1", 26);
        fault("honours 1; hits 1; wills 1 # 12345", 27);
        fault("honours " + (char) 233 + ";", 8);
        fault("deer 3; hits 1; wills 1;", 0);
        fault("#honours 3; hits 1; wills 1;", 0);
        fault("12345 3; hits 1; wills 1;", 0);
        fault(" 7 3; hits 1; wills 1;", 1);
        fault("or 3; hits 1; wills 1;", 0);
        fault("honours 1 wills 2; hits 1; wills 1;", 10);
        fault("honours 1 hits 2; hits 1; wills 1;", 10);
        fault("honours 1 honours 2; hits 1; wills 1;", 10);
        fault("honours 1; wills 1; hits 1;", 11);
        fault("honours 1; or 1; wills 1;", 11);
        fault("honours 1; hits 1; or 1;", 19);
        fault("honours 1; hits 1; hits 1;", 19);
        fault("honours 1; hits 1;; wills 1;", 18);
        fault("honours3; hits 1; wills 1", 25);
        fault("honours 1 not 2;", 10);
        fault("honours not;", 11);
        fault("honours notmore;", 8);
        fault("honours honours;", 8);
        fault("honours honour shy;", 15);
        fault("honours 1 (2);", 10);
        fault("honours (1 2);", 11);
        fault("honours (1;)", 10);
        fault("honours 1 + ;", 12);
        fault("honours 1 + + 2;", 12);
        fault("honours 1 * not 2;", 12);
        fault("honours 1 < not 2;", 12);
        fault("honours 1 or or 2;", 13);
        fault("honours 99999999999999999999;", 8);
        fault("honours 00001;", 8);
        fault("honours 1; hits 1; wills 1; ; #", 28);
        fault("honours 1 #; hits 12345", 10);
        fault("honours 1 1 #", 10);
    }

    private static void openOnes() {
        due("(((((5)))))", 5);
        due("-----5", -5);
        due("not not not not not 5", 0);
        due("not(-(-5))", 0);
        due("(((((5)))))+(((((5)))))", 10);
        due("-----5 - -----5", 0);
        due("not not not not not 5 or not not not not not 5", 0);
        due("(1-(2-(3-(4-(5-6)))))", -3);
        fault("honours ((((((5))))));", 13);
        fault("honours ------5;", 13);
        fault("honours not not not not not not 5;", 28);
        fault("honours not (-(-(5)));", 16);
        fault("honours (((((-5)))));", 13);
        fault("honours (((((not 5)))));", 13);
        fault("honours not not not not not (5);", 28);
        fault("honours not not not not not 5 < -5;", 32);
        fault("honours -----(5);", 13);
        due("not not not not not 5 and -5", 0);
        due("-----5*-----5", 25);
        due("not not not not 5 < -5", 0);
        due("((((1) + -2) - -3))", 2);
    }

    /** Each of the 256 bytes ahead of, within and behind a text. */
    private static void bytes() {
        for (int b = 0; b < 256; b++) {
            boolean isBlank = b == 32 || b == 10;
            HuntersIntroduced x = new HuntersIntroduced();
            x.feed(1, b, 0, 0, 0, 0);
            Check.due("6: byte " + b + " ahead", Setting.text(x, "honours 1;hits 1;wills 1;"), isBlank ? 1 : -100);
            byteWithin(b, isBlank);
            HuntersIntroduced y = new HuntersIntroduced();
            Setting.feed(y, "honours 1;hits 1;wills 1;");
            y.feed(1, b, 0, 0, 0, 0);
            Check.due("6: byte " + b + " behind", y.text(), isBlank ? 1 : -125);
        }
    }

    /** Between a name and a sign: a letter makes another word, a sign that joins leaves its other side out. */
    private static void byteWithin(int b, boolean isBlank) {
        boolean isLetter = b >= 'a' && b <= 'z';
        boolean joins = "+-*<=".indexOf(b) >= 0 || b == ';';
        int place = isLetter ? 8 : joins ? 12 : 11;
        HuntersIntroduced x = new HuntersIntroduced();
        Setting.feed(x, "honours shy");
        x.feed(1, b, 0, 0, 0, 0);
        Check.due("6: byte " + b + " behind a name", Setting.text(x, ";hits 1;wills 1;"), isBlank ? 1 : -100 - place);
        boolean isDigit = b >= '0' && b <= '9';
        place = joins ? 10 : 9;
        HuntersIntroduced y = new HuntersIntroduced();
        Setting.feed(y, "honours 7");
        y.feed(1, b, 0, 0, 0, 0);
        int due = isBlank || isDigit ? 1 : -100 - place;
        Check.due("6: byte " + b + " behind a number", Setting.text(y, ";hits 1;wills 1;"), due);
    }

    /** No text leaves anything to the next, be it longer or shorter, with a fault or without. */
    private static void oneBehindTheOther() {
        HuntersIntroduced x = new HuntersIntroduced();
        x.hunter(0, 0, 0);
        Check.due("6: a fault", Setting.text(x, "honours 1+1; hits"), -117);
        Check.due("6: good behind a fault", Setting.text(x, "honours 1+1+1+1; hits 2; wills 0;"), 1);
        Check.due("6: ends too early behind it", Setting.text(x, "honours 1; hits 2;"), -118);
        Check.due("6: shorter behind it", Setting.text(x, "honours 5; hits 6; wills 7;"), 2);
        Check.due("6: nothing behind it", x.text(), -100);
        String half = "1+1".repeat(1) + "+1".repeat(64);
        Check.due("6: a long one", Setting.text(x, "honours " + half + "; hits 8;wills 0;"), 3);
        Check.due("6: a fault behind it", Setting.text(x, "honours (1; hits 6; wills 7;"), -110);
        Check.due("6: another long one", Setting.text(x, "honours 9;hits " + half + ";wills 0;"), 4);
        Check.due("6: the last", Setting.text(x, "honours 3;hits 4;wills " + half + "-66;"), 5);
        int[][] due = {{3, 0, 1}, {4, 2, 0}, {5, 6, 1}, {66, 8, 0}, {9, 66, 0}, {3, 4, 0}};
        for (int t = 0; t < 6; t++) {
            x.force(t);
            for (int part = 0; part < 3; part++) {
                Check.due("6: part " + part + " of text " + t, x.asks(part, 0, -1), due[t][part]);
            }
        }
    }

    private static void full() {
        HuntersIntroduced x = new HuntersIntroduced();
        for (int t = 1; t < 6; t++) {
            Check.due("6: number", Setting.text(x, "honours " + t + ";hits 1;wills 1;"), t);
            Check.due("6: the tape is empty", x.count(5), 0);
        }
        Setting.feed(x, "honour");
        Check.due("6: full ahead of the fault", x.text(), -4);
        Check.due("6: the tape stays", x.count(5), 6);
        Check.due("6: texts", x.count(3), 6);
        Check.due("6: the law stays", x.count(4), 0);
        longest();
    }

    private static void longest() {
        HuntersIntroduced x = new HuntersIntroduced();
        StringBuilder b = new StringBuilder("honours 1");
        while (b.length() <= 160 - 18) {
            b.append("+1");
        }
        b.append(";hits 1;wills 1;");
        while (b.length() < 160) {
            b.append(' ');
        }
        Setting.feed(x, b.toString());
        Check.due("6: 160 bytes", x.count(5), 160);
        Check.due("6: longest", x.text(), 1);
        x.force(1);
        x.hunter(0, 0, 0);
        Check.due("6: longest says", x.asks(0, 0, -1), 68);
    }
}
