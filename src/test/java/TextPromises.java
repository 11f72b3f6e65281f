/** Promise 6: texts, what they say, and their faults. */
final class TextPromises {
    private TextPromises() {
    }

    static void run() {
        says();
        faults();
        openOnes();
        full();
    }

    /** What a hunter of MORE 7, honour 40 and three cards, who met one other, says on day 12 of a deer shy 6. */
    private static void due(String e, int want) {
        HuntersIntroduced x = Setting.under("honours 0; hits " + e + "; wills 0;");
        x.hunter(7, 40, 7);
        x.hunter(0, 0, 0);
        x.friends(0, 1, 1);
        x.forest(0, 0, 12);
        x.forest(1, 4, 6);
        Check.due("6: " + e, x.asks(1, 0, 4), want);
    }

    private static void says() {
        due("honour", 40);
        due("shy", 6);
        due("met", 1);
        due("cards", 3);
        due("day", 12);
        due("more", 7);
        due("0042", 42);
        due("2+3*4", 14);
        due("(2+3)*4", 20);
        due("20-3-4", 13);
        due("2*-3", -6);
        due("- -5", 5);
        due("--5", 5);
        due("1-(-2)", 3);
        due("-(1+2)*3", -9);
        due("not 0", 1);
        due("not 5", 0);
        due("not not 5", 1);
        due("not 3<2", 1);
        due("not 0 and 0", 0);
        due("3<4", 1);
        due("4<4", 0);
        due("-1<0", 1);
        due("4=2+2", 1);
        due("4=5", 0);
        due("2 and 4", 1);
        due("2 and 0", 0);
        due("0 or 4", 1);
        due("0 or 0", 0);
        due("1 or 1 and 0", 1);
        due("(1 or 1) and 0", 0);
        due("1<2 or 0", 1);
        due("(1<2)=1", 1);
        due("9999*9999*22<0", 1);
        due("9999*9999*22", -99);
        due("9999*9999*9999*9999<0", 0);
        due("9999*9999*9999 - 9999*9999*9999 + 5", 5);
        due("9999", 99);
        due("-9999", -99);
        due("honour-(shy\n+met)*cards", 19);
        due("2and 3", 1);
        due("12or0", 1);
    }

    private static void fault(String text, int place) {
        HuntersIntroduced x = new HuntersIntroduced();
        Check.due("6: fault: " + text, Setting.text(x, text), -100 - place);
        Check.due("6: the tape is empty behind a fault", x.count(5), 0);
        Check.due("6: no text by a fault", x.count(3), 1);
    }

    private static void faults() {
        fault("", 0);
        fault("  \n ", 4);
        fault("honours", 7);
        fault("honours 3", 9);
        fault("honours 3;", 10);
        fault("honours 3; ", 11);
        fault("hits 3;", 0);
        fault("honour 3;", 0);
        fault("honours 3; wills", 11);
        fault("honours;", 7);
        fault("honours 3 4;", 10);
        fault("honours 12345;", 8);
        fault("honours 3x;", 9);
        fault("honours X;", 8);
        fault("honours 3\t;", 9);
        fault("honours\r3;", 7);
        fault("honours 3 > 2;", 10);
        fault("honours deer;", 8);
        fault("honours shyz;", 8);
        fault("honours dayz 1;", 8);
        fault("honours a;", 8);
        fault(";".repeat(160), 0);
        fault("honours " + "-7".repeat(76), 160);
        fault("honours hits;", 8);
        fault("honours 1<2<3;", 11);
        fault("honours 1=2<3;", 11);
        fault("honours 1+not 2;", 10);
        fault("honours -not 2;", 9);
        fault("honours 1*;", 10);
        fault("honours (1;", 10);
        fault("honours 1);", 9);
        fault("honours ();", 9);
        fault("honours +1;", 8);
        fault("honours not;", 11);
        fault("honours 1 and;", 13);
        fault("honours 1; hits 1; wills 1; 5", 28);
        fault("honours 1; hits 1; wills 1;;", 27);
        fault("honours 1; hits 1; wills 1; #", 28);
        fault("honours 1; hits 1; wills 1", 26);
        fault("honours 1; hits 1; wills 1 # 12345", 27);
        fault("honours " + (char) 233 + ";", 8);
    }

    private static void openOnes() {
        due("(((((5)))))", 5);
        due("-----5", -5);
        due("not not not not not 5", 0);
        due("not(-(-5))", 0);
        due("(((((5)))))+(((((5)))))", 10);
        due("-----5 - -----5", 0);
        due("not not not not not 5 or not not not not not 5", 0);
        due("(1-(2-(3-(4-(5-6)))))", -3);
        fault("honours ((((((5))))));", 13);
        fault("honours ------5;", 13);
        fault("honours not not not not not not 5;", 28);
        fault("honours not (-(-(5)));", 16);
        fault("honours (((((-5)))));", 13);
        fault("honours (((((not 5)))));", 13);
        fault("honours not not not not not (5);", 28);
        fault("honours not not not not not 5 < -5;", 32);
        fault("honours -----(5);", 13);
        due("not not not not not 5 and -5", 0);
        due("-----5*-----5", 25);
        due("not not not not 5 < -5", 0);
        due("((((1) + -2) - -3))", 2);
    }

    private static void full() {
        HuntersIntroduced x = new HuntersIntroduced();
        for (int t = 1; t < 6; t++) {
            Check.due("6: number", Setting.text(x, "honours " + t + ";hits 1;wills 1;"), t);
            Check.due("6: the tape is empty", x.count(5), 0);
        }
        Setting.feed(x, "honour");
        Check.due("6: full ahead of the fault", x.text(), -4);
        Check.due("6: the tape stays", x.count(5), 6);
        Check.due("6: texts", x.count(3), 6);
        Check.due("6: the law stays", x.count(4), 0);
        longest();
    }

    private static void longest() {
        HuntersIntroduced x = new HuntersIntroduced();
        StringBuilder b = new StringBuilder("honours 1");
        while (b.length() <= 160 - 18) {
            b.append("+1");
        }
        b.append(";hits 1;wills 1;");
        while (b.length() < 160) {
            b.append(' ');
        }
        Setting.feed(x, b.toString());
        Check.due("6: 160 bytes", x.count(5), 160);
        Check.due("6: longest", x.text(), 1);
        x.force(1);
        x.hunter(0, 0, 0);
        Check.due("6: longest says", x.asks(0, 0, -1), 68);
    }
}
