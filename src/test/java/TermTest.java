/**
 * The sentences of "Terms" that name a least, a greatest, a number in all, what is cut or held, a DAY
 * from which or up to which something counts, and a FAULT's place: each on both sides of its edge.
 */
public final class TermTest {
    private static final int NOT_SIGNED = -9;
    private static final int SIGNED = 0;
    private static final int ABOARD = 1;
    private static final int NOT_KNOWN = 2;
    private static final int LEFT = 3;
    private static final int DEAD = 4;
    private static final int OFF = 5;
    /** The greatest number that is held, as a text. */
    private static final String MOST = "10000*10000*10";

    public static void main(String[] args) {
        knownSailed();
        knownLeft();
        knownBack();
        knownDied();
        knownLost();
        knownHeard();
        movesOfOneDay();
        cutAndLeft();
        comparisons();
        heldWithin();
        numbers();
        brackets();
        faults();
        everyByte();
        years();
        daysOfLetters();
        lettersOfTwo();
        lettersAsKnown();
        sumsAndReadings();
        inForce();
        withoutActs();
        stateOrder();
        presume();
        presumeOfThatDay();
        earning();
        earningUpToLost();
        earningWhenNotKnown();
        sailedAheadOfSigning();
        notePaid();
        notePaidAsKnown();
        allotmentsPaid();
        allotLets();
        finesStand();
        finesCount();
        shortPence();
        wagesCut();
        forfeits();
        forfeitsOfThatDay();
        alike();
        groups();
        papersOfOthers();
        papersShownTwice();
        home();
        crewOfTwelve();
        crewFirstWay();
        accountOfTwelve();
        Bounds.end();
    }

    private static ShipOffice begin(String about) {
        Bounds.about = about;
        return new ShipOffice();
    }

    private static ShipOffice signedOne(String about) {
        ShipOffice x = begin(about);
        Bounds.signed(x);
        return x;
    }

    private static void due(String what, long got, long want) {
        Bounds.due(what, got, want);
    }

    /** STATE of AGREEMENT 0 on four days j as known on K. */
    private static void states(ShipOffice x, int[]... rows) {
        for (int[] r : rows) due("state on " + r[0] + " as known on " + r[1], x.state(0, r[0], r[1]), r[2]);
    }

    /** Told on 10 as of 5: from its own DAY on, as known from 10 on. */
    private static void toldLate(ShipOffice x, int before, int after) {
        x.days(10);
        states(x, new int[] {4, 20, before}, new int[] {5, 20, after}, new int[] {5, 9, before},
            new int[] {5, 10, after}, new int[] {9, 9, before}, new int[] {10, 10, after}, new int[] {4, 10, before});
    }

    private static void knownSailed() {
        ShipOffice x = signedOne("SAILED counts from its DAY, as known");
        x.days(10);
        x.sailed(0, 5);
        toldLate(x, SIGNED, ABOARD);
    }

    private static void knownLeft() {
        for (int way = 0; way <= 2; way++) {
            ShipOffice x = signedOne("LEFT counts from its DAY, as known");
            x.days(10);
            x.left(0, 5, way, 0);
            toldLate(x, SIGNED, LEFT);
        }
    }

    private static void knownBack() {
        ShipOffice x = signedOne("BACK counts from its DAY, as known");
        x.left(0, 0, 0, 0);
        x.days(10);
        x.back(0, 5);
        toldLate(x, LEFT, SIGNED);
    }

    private static void knownDied() {
        ShipOffice x = signedOne("DIED counts from its DAY, as known");
        x.days(10);
        x.died(0, 5);
        toldLate(x, SIGNED, DEAD);
    }

    private static void knownLost() {
        ShipOffice x = signedOne("LOST counts from its DAY, as known");
        x.days(10);
        x.lost(0, 5);
        toldLate(x, SIGNED, DEAD);
    }

    private static void knownHeard() {
        ShipOffice x = signedOne("HEARD counts from its DAY, as known");
        Bounds.act(x, 4, 0, "5-2");
        x.sailed(0, 0);
        x.days(10);
        x.heard(0, 5);
        x.days(10);
        states(x, new int[] {3, 20, ABOARD}, new int[] {4, 20, NOT_KNOWN}, new int[] {5, 20, ABOARD},
            new int[] {8, 20, ABOARD}, new int[] {9, 20, NOT_KNOWN}, new int[] {5, 9, NOT_KNOWN},
            new int[] {5, 10, ABOARD});
    }

    private static void movesOfOneDay() {
        ShipOffice x = signedOne("LEFT and BACK: the latest DAY, of several the one told last");
        x.days(10);
        x.left(0, 5, 0, 0);
        x.back(0, 5);
        due("BACK told last", x.state(0, 5, 10), SIGNED);
        x.left(0, 5, 1, 0);
        due("LEFT told last", x.state(0, 5, 10), LEFT);
        x.back(0, 4);
        due("BACK of an earlier DAY, told last", x.state(0, 5, 10), LEFT);
        due("on that DAY", x.state(0, 4, 10), SIGNED);
        x.back(0, 6);
        due("BACK of a later DAY", x.state(0, 6, 10), SIGNED);
        x.left(0, 5, 0, 0);
        due("LEFT of an earlier DAY, told last", x.state(0, 6, 10), SIGNED);
        due("the DAY between", x.state(0, 5, 10), LEFT);
    }

    /** What stands of a FINE of 9999 on DAY 0 is the text's worth from 0 to 9999. */
    private static int worth(String text) {
        ShipOffice x = new ShipOffice();
        Bounds.signed(x);
        int told = Bounds.act(x, 1, 0, text);
        x.fine(0, 0, 9999, false);
        return told == 1 ? x.stands(0, 0, 0) : told;
    }

    private static void worths(String about, String[] texts, int... wants) {
        Bounds.about = about;
        for (int i = 0; i < texts.length; i++) due(texts[i], worth(texts[i]), wants[i]);
    }

    private static void cutAndLeft() {
        worths("cut toward 0", new String[] {"7/2", "10+(0-7)/2", "10+7/(0-2)", "(0-7)/(0-2)", "10+(0-1)/2", "8/2", "1/2",
            "10-(0-1)/99999"}, 3, 7, 7, 3, 10, 4, 0, 10);
        worths("by 0: 0", new String[] {"5/0", "0/0", "5/(1-1)+4", "8/0*5+1", "4-(0-5)/0", MOST + "/0"}, 0, 0, 4, 1, 4, 0);
        worths("from the left on", new String[] {"100/7*7", "7*100/7", "100-10-1", "2*3/4", "3/4*2", "2+3*4-6/3", "64/8/2",
            "64/(8/2)", "10-(5-3)", "10-5-3", "10-5+3"}, 98, 100, 89, 1, 0, 12, 4, 16, 8, 2, 8);
    }

    private static void comparisons() {
        worths("1 if so, else 0", new String[] {"(1<1)", "(1<2)", "(2<1)", "(1=1)", "(1=2)", "(2=1)", "(1>1)", "(2>1)",
            "(1>2)", "(0-1<0)", "(0>0-1)", "(1+1=2)", "(1<2)+(1<2)", "((1<2)=(2>1))", "((1<2)<(2>1))"},
            0, 1, 0, 1, 0, 0, 0, 1, 0, 1, 1, 1, 2, 1, 0);
    }

    private static void heldWithin() {
        worths("held within, at the greatest", new String[] {"(99999*99999=" + MOST + ")", "(" + MOST + "+1=" + MOST + ")",
            "(" + MOST + "-1<" + MOST + ")", "(31623*31623=" + MOST + ")", "(31622*31622<" + MOST + ")",
            "(9999*10000*10+10000=" + MOST + ")"}, 1, 1, 1, 1, 1, 0);
        worths("held within, at the least", new String[] {"((0-99999)*99999=0-" + MOST + ")", "(0-" + MOST + "-1=0-" + MOST + ")",
            "(0-" + MOST + "+1>0-" + MOST + ")", "((0-31623)*31623=0-" + MOST + ")", "((0-31622)*31622>0-" + MOST + ")"},
            1, 1, 1, 1, 1);
        worths("held after each step", new String[] {"99999*99999/99999-9000", "(" + MOST + "+" + MOST + "-" + MOST + "=0)",
            "99999*99999*99999/99999-9000", MOST + "+5-" + MOST, "0-" + MOST + "-5+" + MOST + "+7"}, 1000, 1, 1000, 0, 7);
        worths("the bound itself", new String[] {MOST + "/10000/10000", "20+(0-" + MOST + ")/10000/10000",
            "99999*99999-99999*10000-9999", "99999*10000+9999-99999*10000", "99999*10000+10001-99999*10000-9999",
            "10-((0-99999)*99999+99999*10000+9999)"}, 10, 10, 1, 9999, 1, 11);
        worths("the greatest on both sides", new String[] {"(0-" + MOST + ")/(0-1)-" + MOST + "+3", "(99999*99999>" + MOST + ")"},
            3, 0);
    }

    private static void numbers() {
        worths("a number of 1 to 5 digits", new String[] {"0", "9", "00000", "00009", "09999", "99999", "000000", "100000",
            "1+123456", "(123456", "12345*1"}, 0, 9, 0, 9, 9999, 9999, -25, -25, -27, -26, 9999);
    }

    private static void brackets() {
        worths("brackets are 5 deep at most", new String[] {"(((((7)))))", "((((((7))))))", "((((((", "(((((1<((", "1+((((((2",
            "(((((1)+(2)))))", "(((((1)+((2", "((((1))))*((((((", "(((((1<2)))))", "(((((1<2)+(3=3)))))", "(((((", "((((((7)"},
            7, -25, -25, -27, -27, 3, -29, -35, 1, 2, -25, -25);
        worths("brackets side by side", new String[] {"(1)+(1)+(1)+(1)+(1)+(1)+(1)", "((((1)))+(((1))))*(((((2)))))"}, 7, 4);
    }

    private static void faults() {
        worths("the end, if something lacks", new String[] {"", "1+", "1-", "1*", "1/", "(", "(1", "(1+", "(1<", "(1=2", "(1>2+",
            "((1)", "((1<2)", "w*", "12345+"}, -20, -22, -22, -22, -22, -21, -22, -23, -23, -24, -25, -24, -26, -22, -26);
        worths("the first byte that can not stand", new String[] {")", "*", "+1", "-1", "1)", "1(", "w(", "w1", "1w", "ww",
            "(1)(", "(1)1", "(1)w", "1<2", "(1)<2", "(1<2<3)", "(1<2=3", "(1=2)>", "()", "(+", "(<", "(1<)", "1++", "1*/", "1 ",
            " 1", "W", "1+)q", "q+)", "(1))", "(1<2))", "((1<2)<3)(", "1.5", "1,5", "[1]"},
            -20, -20, -20, -20, -21, -21, -21, -21, -21, -21, -23, -23, -23, -21, -23, -24, -24, -25, -21, -21, -21, -23, -22,
            -22, -21, -20, -20, -22, -20, -23, -25, -29, -21, -21, -20);
    }

    /** All 256 bytes behind a beginning: those that end a text, those behind which something lacks, the others. */
    private static void behind(String start, String ends, String goesOn) {
        for (int b = 0; b < 256; b++) {
            ShipOffice x = new ShipOffice();
            char sign = (char) b;
            int place = goesOn.indexOf(sign) >= 0 ? start.length() + 1 : start.length();
            int want = ends.indexOf(sign) >= 0 ? 1 : -20 - place;
            due("byte " + b + " behind '" + start + "'", Bounds.act(x, 0, 0, start + sign), want);
        }
    }

    private static void everyByte() {
        Bounds.about = "every byte";
        String digits = "0123456789";
        behind("", digits + "wradnslx", "(");
        behind("1", digits, "+-*/");
        behind("12345", "", "+-*/");
        behind("w", "", "+-*/");
        behind("1+", digits + "wradnslx", "(");
        behind("(", "", digits + "wradnslx(");
        behind("(1", ")", digits + "+-*/<=>");
        behind("(w", ")", "+-*/<=>");
        behind("(1<", "", digits + "wradnslx(");
        behind("(1<2", ")", digits + "+-*/");
        behind("(1)", "", "+-*/");
        behind("(((((", "", digits + "wradnslx");
        behind("((1)", ")", "+-*/<=>");
    }

    private static void years() {
        Bounds.about = "the man's years, cut";
        int[][] rows = {{0, 0, 0}, {364, 0, 0}, {365, 0, 1}, {729, 0, 1}, {730, 0, 2}, {0, -364, 0}, {0, -365, 1}, {1, -364, 1},
            {3000, -30000, 90}, {0, -30000, 82}};
        for (int[] r : rows) {
            for (int years = r[2] - 1; years <= r[2] + 1; years++) {
                ShipOffice x = new ShipOffice();
                x.man(1, 1, r[1]);
                x.voyage(0, 0);
                if (r[0] > 0) x.days(r[0]);
                Bounds.act(x, 0, r[0], "(a+1=" + (years + 1) + ")");
                due("on " + r[0] + ", born on " + r[1], x.sign(0, 0, 1, 0, -1), years == r[2] ? 0 : -3);
            }
        }
    }

    /** d, n and l of a FINE's DAY: both DAYS too, from SAILED on. */
    private static void daysOfLetters() {
        int[][] rows = {{4, 0, 0, 0}, {5, 1, 2, 0}, {6, 2, 2, 1}, {7, 3, 1, 2}, {8, 4, 1, 0}, {9, 5, 1, 1}};
        ShipOffice x = signedOne("the letters d, n, l");
        x.man(2, 22222, 0);
        x.sign(1, 0, 30, 0, -1);
        Bounds.act(x, 1, 0, "d*100+n*10+l");
        x.days(9);
        x.sailed(0, 5);
        x.heard(0, 8);
        x.left(1, 7, 2, 0);
        for (int i = 0; i < rows.length; i++) {
            int[] r = rows[i];
            x.fine(0, r[0], 9999, false);
            due("on " + r[0], x.stands(0, i, 9), r[1] * 100 + r[2] * 10 + r[3]);
        }
        x = signedOne("l of a voyage that was HEARD of and not SAILED");
        Bounds.act(x, 1, 0, "l+100*d");
        x.heard(0, 0);
        x.days(7);
        x.fine(0, 7, 9999, false);
        due("l", x.stands(0, 0, 7), 7);
        x = signedOne("d of one who is LEFT, and NOT KNOWN");
        Bounds.act(x, 1, 0, "d");
        Bounds.act(x, 4, 0, "4");
        x.sailed(0, 0);
        x.days(20);
        x.heard(0, 10);
        x.left(0, 2, 0, 0);
        x.back(0, 4);
        x.fine(0, 20, 9999, false);
        due("d", x.stands(0, 0, 20), 2 + 1 + 5);
    }

    /** The letters of the man who is fined, not of the one who signed last. */
    private static void lettersOfTwo() {
        String[] texts = {"w", "r", "a"};
        int[][] wants = {{3000, 45}, {2, 1}, {20, 8}};
        for (int i = 0; i < texts.length; i++) {
            ShipOffice x = signedOne("the letters of two men: " + texts[i]);
            x.man(2, 22222, -3000);
            x.sign(1, 0, 45, 1, -1);
            Bounds.act(x, 1, 0, texts[i]);
            for (int a = 0; a < 2; a++) {
                x.fine(a, 0, 9999, false);
                due("of " + a, x.stands(a, 0, 0), wants[i][a]);
            }
            due("of the first again", x.stands(0, 0, 0), wants[i][0]);
        }
    }

    private static void lettersAsKnown() {
        ShipOffice x = signedOne("letters as known on K");
        Bounds.act(x, 1, 0, "d*100+n*10+l");
        x.days(5);
        x.fine(0, 5, 9999, false);
        x.days(1);
        x.sailed(0, 2);
        x.days(1);
        x.heard(0, 4);
        due("ahead of SAILED", x.stands(0, 0, 5), 0);
        due("from SAILED on", x.stands(0, 0, 6), 400 + 10 + 3);
        due("from HEARD on", x.stands(0, 0, 7), 400 + 10 + 1);
        due("K 0", x.stands(0, 0, 0), 0);
    }

    private static void sumsAndReadings() {
        ShipOffice x = signedOne("the letters s and x");
        Bounds.act(x, 1, 0, "s-5*x-1");
        x.fine(0, 0, 9999, false);
        x.fine(0, 0, 9999, true);
        x.fine(0, 0, 1, false);
        due("not READ", x.stands(0, 0, 0), 9998);
        due("READ", x.stands(0, 1, 0), 9993);
        due("the least sum", x.stands(0, 2, 0), 0);
        x.read(0, 0);
        due("READ out", x.stands(0, 0, 0), 9993);
        due("another's is its own", x.stands(0, 2, 0), 0);
    }

    private static void inForce() {
        ShipOffice x = signedOne("in force: the latest DAY not behind it, of several the one told last");
        Bounds.act(x, 1, 3, "3");
        Bounds.act(x, 1, 7, "7");
        Bounds.act(x, 1, 5, "4");
        Bounds.act(x, 1, 5, "5");
        Bounds.act(x, 2, 6, "66");
        x.days(8);
        int[][] rows = {{2, 99}, {3, 3}, {4, 3}, {5, 5}, {6, 5}, {7, 7}};
        for (int i = 0; i < rows.length; i++) {
            x.fine(0, rows[i][0], 99, false);
            due("on " + rows[i][0], x.stands(0, i, 8), rows[i][1]);
        }
        Bounds.act(x, 1, 8, "8");
        due("a DAY ahead of the new one", x.stands(0, 5, 8), 7);
        x = signedOne("in force on its DAY");
        Bounds.act(x, 1, 0, "1");
        x.fine(0, 0, 99, false);
        due("from now on", x.stands(0, 0, 0), 1);
        Bounds.act(x, 1, 0, "2");
        due("the one told last", x.stands(0, 0, 0), 2);
        Bounds.act(x, 1, 1, "3");
        due("from tomorrow on", x.stands(0, 0, 0), 2);
        Bounds.act(x, 1, 0, "(");
        due("one with a FAULT", x.stands(0, 0, 0), 2);
    }

    private static void withoutActs() {
        ShipOffice x = signedOne("without one");
        for (int p = 0; p < 5; p++) Bounds.act(x, p, 200, "0");
        x.man(2, 22222, 0);
        due("SIGN 1", x.sign(1, 0, 30, 0, -1), 1);
        x.fine(0, 0, 9999, false);
        due("FINE s", x.stands(0, 0, 0), 9999);
        due("ALLOT 50", x.allot(0, 1501), -6);
        due("ALLOT 50", x.allot(0, 1500), 1);
        x.sailed(0, 0);
        x.days(91);
        due("PRESUME 90", x.state(1, 90, 91), ABOARD);
        due("PRESUME 90", x.state(1, 91, 91), NOT_KNOWN);
        x.left(1, 90, 0, 0);
        due("FORFEIT 100", x.owed(1, 90, 91), 0);
        due("nothing is taken the DAY before", x.owed(1, 89, 91), 90);
    }

    /** Of several STATES that fit, the first as the document tells them. */
    private static void stateOrder() {
        ShipOffice x = begin("the order of STATES");
        x.days(2);
        Bounds.signed(x);
        Bounds.act(x, 4, 2, "1");
        x.days(8);
        states(x, new int[] {1, 10, NOT_SIGNED}, new int[] {2, 10, SIGNED}, new int[] {1, 1, NOT_SIGNED});
        x.left(0, 3, 0, 0);
        due("LEFT ahead of SIGNED", x.state(0, 3, 10), LEFT);
        due("the DAY before", x.state(0, 2, 10), SIGNED);
        x.sailed(0, 4);
        due("LEFT ahead of ABOARD", x.state(0, 4, 10), LEFT);
        due("LEFT ahead of NOT KNOWN", x.state(0, 10, 10), LEFT);
        x.off(0, 0);
        due("OFF ahead of LEFT", x.state(0, 10, 10), OFF);
        due("the DAY before", x.state(0, 9, 10), LEFT);
        due("OFF is known as it is told", x.state(0, 9, 9), SIGNED);
        x.lost(0, 10);
        due("DEAD ahead of OFF", x.state(0, 10, 10), DEAD);
        due("not signed ahead of DEAD", x.state(0, 1, 10), NOT_SIGNED);
        x = signedOne("DEAD ahead of LEFT");
        x.left(0, 0, 0, 0);
        x.died(0, 0);
        due("DIED", x.state(0, 0, 0), DEAD);
        x.back(0, 0);
        due("BACK does not mend it", x.state(0, 0, 0), DEAD);
        x = signedOne("OFF on the DAY of the signing");
        x.off(0, 0);
        due("OFF", x.state(0, 0, 0), OFF);
        due("it earns nothing", x.earns(0, 0, 0), 0);
    }

    private static void presume() {
        String[] texts = {"0", "1", "0-1", "90", "0-" + MOST, MOST, "w+r+a+d+n+s+l+x+1"};
        int[] lastAboard = {5, 6, 4, 95, 4, 100, 6};
        for (int i = 0; i < texts.length; i++) {
            ShipOffice x = signedOne("PRESUME " + texts[i]);
            Bounds.act(x, 4, 0, texts[i]);
            x.days(100);
            x.sailed(0, 5);
            due("ahead of SAILED", x.state(0, 4, 100), SIGNED);
            due("on SAILED", x.state(0, 5, 100), lastAboard[i] >= 5 ? ABOARD : NOT_KNOWN);
            due("on the last DAY", x.state(0, lastAboard[i], 100), lastAboard[i] >= 5 ? ABOARD : SIGNED);
            if (lastAboard[i] < 100) due("the DAY behind it", x.state(0, lastAboard[i] + 1, 100), NOT_KNOWN);
        }
        ShipOffice x = signedOne("HEARD of ahead of SAILED");
        Bounds.act(x, 4, 0, "3");
        x.heard(0, 0);
        x.days(10);
        x.sailed(0, 2);
        due("SAILED counts", x.state(0, 5, 10), ABOARD);
        due("the DAY behind it", x.state(0, 6, 10), NOT_KNOWN);
        x.heard(0, 10);
        due("HEARD on that DAY", x.state(0, 10, 10), ABOARD);
    }

    private static void presumeOfThatDay() {
        ShipOffice x = signedOne("PRESUME of that DAY");
        Bounds.act(x, 4, 0, "3");
        Bounds.act(x, 4, 10, "20");
        Bounds.act(x, 4, 15, "14");
        x.sailed(0, 0);
        x.days(20);
        states(x, new int[] {3, 20, ABOARD}, new int[] {4, 20, NOT_KNOWN}, new int[] {9, 20, NOT_KNOWN},
            new int[] {10, 20, ABOARD}, new int[] {14, 20, ABOARD}, new int[] {15, 20, NOT_KNOWN});
        due("those NOT KNOWN between earn, too", x.earns(0, 14, 20), 15);
        due("but not at the end", x.earns(0, 15, 20), 1);
        due("nor there", x.earns(0, 9, 20), 1);
        Bounds.act(x, 1, 20, "d");
        x.fine(0, 20, 9999, false);
        due("d: only those ABOARD", x.stands(0, 0, 20), 4 + 5);
        x = signedOne("d, when another PRESUME makes him ABOARD again and again");
        Bounds.act(x, 1, 0, "d");
        for (int day = 0; day < 20; day += 5) Bounds.act(x, 4, day, day % 10 == 0 ? "0" : "99");
        x.sailed(0, 0);
        x.days(20);
        int[][] rows = {{0, 1}, {4, 1}, {5, 2}, {9, 6}, {14, 6}, {20, 12}};
        for (int i = 0; i < rows.length; i++) {
            x.fine(0, rows[i][0], 9999, false);
            due("d on " + rows[i][0], x.stands(0, i, 20), rows[i][1]);
        }
        x = signedOne("d, when the first ACT makes him ABOARD again");
        Bounds.act(x, 4, 100, "200");
        Bounds.act(x, 1, 0, "d");
        x.sailed(0, 0);
        x.days(110);
        x.fine(0, 110, 9999, false);
        due("d", x.stands(0, 0, 110), 91 + 11);
    }

    private static void earning() {
        ShipOffice x = begin("DAYS that earn, both too");
        x.days(3);
        Bounds.signed(x);
        due("the signing's", x.earns(0, 3, 3), 1);
        due("none ahead of it", x.earns(0, 2, 3), 0);
        x.days(7);
        due("all", x.earns(0, 10, 10), 8);
        x.left(0, 6, 2, 0);
        due("up to LEFT", x.earns(0, 5, 10), 3);
        due("not on LEFT", x.earns(0, 6, 10), 3);
        x.back(0, 8);
        due("not ahead of BACK", x.earns(0, 7, 10), 3);
        due("on BACK", x.earns(0, 8, 10), 4);
        x.died(0, 10);
        due("up to DIED", x.earns(0, 9, 10), 5);
        due("not on DIED", x.earns(0, 10, 10), 5);
        x = signedOne("DAYS that earn, up to OFF");
        x.days(5);
        x.off(0, 0);
        x.days(5);
        due("not on OFF", x.earns(0, 5, 10), 5);
        due("nor behind it", x.earns(0, 10, 10), 5);
        due("up to it", x.earns(0, 4, 10), 5);
        x = signedOne("all DAYS");
        x.days(3000);
        due("3001", x.earns(0, 3000, 3000), 3001);
        due("OWED", x.owed(0, 3000, 3000), 300100);
    }

    private static void earningUpToLost() {
        for (int heard : new int[] {0, 5, 20}) {
            ShipOffice x = signedOne("DAYS that earn, up to LOST, HEARD of on " + heard);
            Bounds.act(x, 1, 0, "d");
            x.days(40);
            x.sailed(0, 5);
            if (heard > 0) x.heard(0, heard);
            x.days(1);
            x.lost(0, 30);
            due("up to LOST", x.earns(0, 29, 41), 30);
            due("not on LOST", x.earns(0, 30, 41), 30);
            due("nor behind it", x.earns(0, 41, 41), 30);
            due("as known ahead of it", x.earns(0, 40, 40), 41);
            int[][] rows = {{4, 0}, {5, 1}, {29, 25}, {30, 25}, {41, 25}};
            for (int i = 0; i < rows.length; i++) {
                x.fine(0, rows[i][0], 9999, false);
                due("d on " + rows[i][0], x.stands(0, i, 41), rows[i][1]);
            }
        }
    }

    private static void earningWhenNotKnown() {
        ShipOffice x = signedOne("behind the last HEARD of, when NOT KNOWN");
        Bounds.act(x, 4, 0, "5");
        x.days(40);
        x.sailed(0, 10);
        due("ABOARD: all", x.earns(0, 15, 40), 16);
        due("NOT KNOWN: up to SAILED", x.earns(0, 16, 40), 11);
        x.heard(0, 20);
        due("NOT KNOWN ahead of HEARD", x.earns(0, 19, 40), 11);
        due("HEARD of again: all", x.earns(0, 20, 40), 21);
        due("up to the last DAY", x.earns(0, 25, 40), 26);
        due("NOT KNOWN again: up to HEARD", x.earns(0, 26, 40), 21);
        x.left(0, 30, 1, 1);
        due("LEFT is not NOT KNOWN: all up to it", x.earns(0, 30, 40), 30);
        x.back(0, 35);
        due("NOT KNOWN behind BACK", x.earns(0, 35, 40), 21);
        x.lost(0, 40);
        due("DEAD is not NOT KNOWN", x.earns(0, 40, 40), 35);
    }

    private static void sailedAheadOfSigning() {
        ShipOffice x = begin("SAILED as of a DAY ahead of the signing");
        x.voyage(0, 0);
        x.man(1, 1, 0);
        x.days(2);
        x.sign(0, 0, 300, 0, -1);
        x.advance(0, 5);
        x.sailed(0, 0);
        Bounds.act(x, 4, 2, "1");
        due("not signed", x.state(0, 1, 2), NOT_SIGNED);
        due("NOT KNOWN at once", x.state(0, 2, 2), NOT_KNOWN);
        due("the last HEARD is ahead of the signing", x.earns(0, 2, 2), 0);
        x.days(3);
        x.heard(0, 3);
        due("the third DAY behind SAILED", x.owed(0, 3, 5), 20 - 5);
    }

    private static void notePaid() {
        int[][] rows = {{-1, 0, 1}, {8, 0, 0}, {9, 0, 1}, {7, 8, 1}, {7, 9, 0}, {5, 7, 1}};
        for (int[] r : rows) {
            ShipOffice x = signedOne("PAID on the third DAY behind SAILED if ABOARD, LEFT " + r[0] + ", BACK " + r[1]);
            x.advance(0, 99999);
            x.days(20);
            x.sailed(0, 5);
            if (r[0] >= 0) x.left(0, r[0], 1, 0);
            if (r[1] > 0) x.back(0, r[1]);
            due("the second", x.owed(0, 7, 20), 100 * x.earns(0, 7, 20));
            due("the third", x.owed(0, 8, 20), 100 * x.earns(0, 8, 20) - 99999 * r[2]);
            due("later", x.owed(0, 20, 20), 100 * x.earns(0, 20, 20) - 99999 * r[2]);
        }
        for (int days = 2; days <= 3; days++) {
            ShipOffice x = signedOne("NOT KNOWN is not ABOARD, PRESUME " + days);
            Bounds.act(x, 4, 0, "1+" + (days - 1));
            x.advance(0, 1);
            x.sailed(0, 0);
            x.days(10);
            due("earns", x.earns(0, 3, 10), days == 3 ? 4 : 1);
            due("the third", x.owed(0, 3, 10), days == 3 ? 399 : 100);
        }
        ShipOffice x = signedOne("OFF on the third DAY");
        x.advance(0, 1);
        x.sailed(0, 0);
        x.days(3);
        x.off(0, 0);
        due("not PAID", x.owed(0, 3, 3), 300);
    }

    private static void notePaidAsKnown() {
        ShipOffice x = signedOne("PAID as known on K");
        x.advance(0, 7);
        x.days(9);
        x.sailed(0, 1);
        x.days(1);
        x.left(0, 4, 1, 0);
        due("ahead of the telling", x.owed(0, 8, 8), 900);
        due("as SAILED is told", x.owed(0, 8, 9), 893);
        due("as LEFT is told", x.owed(0, 8, 10), 400);
        due("the second DAY", x.owed(0, 3, 9), 400);
    }

    private static void allotmentsPaid() {
        ShipOffice x = signedOne("paid on each 30th DAY behind SAILED on which he is ABOARD");
        x.allot(0, 1000);
        x.days(130);
        x.sailed(0, 5);
        for (int day = 30; day <= 130; day += 30) x.heard(0, day);
        int[][] rows = {{5, 0}, {34, 0}, {35, 1}, {64, 1}, {65, 2}, {94, 2}, {95, 3}, {124, 3}, {125, 4}, {130, 4}};
        for (int[] r : rows) due("on " + r[0], x.owed(0, r[0], 130), 100 * (r[0] + 1) - 1000 * r[1]);
        x.left(0, 65, 1, 0);
        due("LEFT on the DAY", x.owed(0, 65, 130), 6500 - 1000);
        x.back(0, 66);
        due("BACK a DAY later", x.owed(0, 94, 130), 9400 - 1000);
        due("the next", x.owed(0, 95, 130), 9500 - 2000);
        x.left(0, 94, 1, 0);
        x.back(0, 95);
        due("BACK on the DAY", x.owed(0, 95, 130), 9400 - 2000);
        x = signedOne("the least ALLOTMENT");
        x.allot(0, 1);
        x.sailed(0, 0);
        x.days(60);
        due("once", x.owed(0, 59, 60), 6000 - 1);
        due("twice", x.owed(0, 60, 60), 6100 - 2);
        x = signedOne("not paid when NOT KNOWN");
        Bounds.act(x, 4, 0, "29");
        x.allot(0, 1000);
        x.sailed(0, 0);
        x.days(60);
        due("30 days unheard of", x.owed(0, 30, 60), 100);
        x.heard(0, 31);
        due("29 days unheard of", x.owed(0, 60, 60), 6100 - 1000);
    }

    /** The greatest sum that is let, of a WAGE and a text. */
    private static void lets(int wage, String text, int most) {
        for (int sum = Math.max(1, most); sum <= most + 1; sum++) {
            ShipOffice x = begin("not above ALLOT hundredths of the WAGE, cut: " + text + " of " + wage);
            x.man(1, 1, -7300);
            x.voyage(0, 0);
            x.sign(0, 0, wage, 3, -1);
            x.sailed(0, 0);
            x.days(5);
            Bounds.act(x, 3, 5, text);
            due("sum " + sum, x.allot(0, sum), sum <= most ? 1 : -6);
        }
    }

    private static void allotLets() {
        lets(9999, "0", 0);
        lets(9999, "0-1", 0);
        lets(9999, "0-" + MOST, 0);
        lets(99, "1", 0);
        lets(100, "1", 1);
        lets(199, "1", 1);
        lets(302, "33", 99);
        lets(302, "100", 302);
        lets(302, "101", 305);
        lets(9, "99999", 8999);
        lets(1, MOST, 9999);
        lets(9999, MOST, 9999);
        lets(302, "(s<100)*50", 99);
        lets(302, "w/10", 90);
        lets(100, "r", 3);
        lets(100, "a", 20);
        lets(100, "d", 6);
        lets(100, "n", 1);
        lets(100, "l", 5);
        lets(100, "x", 0);
    }

    private static void finesStand() {
        String[] texts = {"0-1", "0", "1", "s-1", "s", "s+1", MOST, "0-" + MOST};
        int[] stands = {0, 0, 1, 49, 50, 50, 50, 0};
        for (int i = 0; i < texts.length; i++) {
            ShipOffice x = signedOne("the lesser of the sum and FINE's worth, 0 at least: " + texts[i]);
            Bounds.act(x, 1, 0, texts[i]);
            x.fine(0, 0, 50, false);
            due("stands", x.stands(0, 0, 0), stands[i]);
            due("OWED", x.owed(0, 0, 0), 100 - stands[i]);
        }
    }

    private static void finesCount() {
        ShipOffice x = signedOne("FINES of DAYS not behind j");
        x.days(10);
        for (int i = 0; i < 6; i++) x.fine(0, 4 + i, 1, false);
        for (int j = 0; j <= 10; j++) {
            due("on " + j, x.owed(0, j, 10), 100 * (j + 1) - Math.max(0, Math.min(6, j - 3)));
        }
    }

    private static void shortPence() {
        ShipOffice x = signedOne("SHORT's pence told by K");
        x.days(3);
        x.rations(0, 1, 1);
        x.days(1);
        x.rations(0, 998, 99);
        due("ahead of the first", x.owed(0, 2, 2), 300);
        due("as the first is told", x.owed(0, 2, 3), 301);
        due("as the second is told", x.owed(0, 2, 4), 301 + 998 * 99);
        due("on the DAY of the signing", x.owed(0, 0, 4), 101 + 998 * 99);
        x.off(0, 0);
        due("when OFF", x.owed(0, 4, 4), 401 + 998 * 99);
    }

    private static void wagesCut() {
        int[][] rows = {{1, 28, 0}, {1, 29, 1}, {1, 58, 1}, {1, 59, 2}, {29, 0, 0}, {30, 0, 1}, {59, 0, 1}, {60, 0, 2},
            {9999, 0, 333}, {9999, 29, 9999}, {9999, 3000, 9999 * 3001 / 30}, {7, 12, 3}};
        for (int[] r : rows) {
            ShipOffice x = begin("WAGE times DAYS by 30, cut");
            x.man(1, 1, 0);
            x.voyage(0, 0);
            x.sign(0, 0, r[0], 0, -1);
            if (r[1] > 0) x.days(r[1]);
            due("wage " + r[0] + " on " + r[1], x.owed(0, r[1], r[1]), r[2]);
        }
    }

    private static void forfeits() {
        String[] texts = {"0-1", "0", "1", "50", "99", "100", "101", MOST, "0-" + MOST};
        int[] taken = {0, 0, 2, 149, 296, 299, 299, 299, 0};
        for (int i = 0; i < texts.length; i++) {
            for (int way = 0; way <= 2; way++) {
                ShipOffice x = signedOne("FORFEIT's hundredths, 0 .. 100, cut: " + texts[i] + ", way " + way);
                x.days(3);
                Bounds.act(x, 2, 3, texts[i]);
                x.left(0, 3, way, 0);
                x.fine(0, 0, 1, false);
                due("OWED", x.owed(0, 3, 3), way == 0 ? 299 - taken[i] : 299);
                due("the DAY before", x.owed(0, 2, 3), 299);
            }
        }
        for (int fine : new int[] {99, 100, 101}) {
            ShipOffice x = signedOne("if it is above 0");
            x.days(1);
            x.left(0, 1, 0, 0);
            x.fine(0, 0, fine, false);
            due("OWED on LEFT", x.owed(0, 1, 1), Math.min(0, 100 - fine));
            due("the DAY before", x.owed(0, 0, 1), 100 - fine);
        }
    }

    private static void forfeitsOfThatDay() {
        ShipOffice x = signedOne("FORFEIT of that DAY");
        Bounds.act(x, 2, 2, "10");
        Bounds.act(x, 2, 4, "20");
        x.days(5);
        x.left(0, 1, 0, 0);
        int[] owed = {100, 0, 90, 90, 80, 80};
        for (int j = 0; j <= 5; j++) due("on " + j, x.owed(0, j, 5), owed[j]);
        x.back(0, 5);
        due("BACK: nothing is taken", x.owed(0, 5, 5), 200);
        due("as known ahead of it", x.owed(0, 4, 4), 500);
        x = signedOne("letters of FORFEIT");
        Bounds.act(x, 2, 0, "a+r*10+d+n+l");
        x.man(2, 22222, 0);
        x.sign(1, 0, 30, 0, -1);
        x.sailed(0, 0);
        x.days(5);
        x.left(0, 3, 0, 0);
        due("a 20, r 2, d 3, n 1, l 5", x.owed(0, 5, 5), 300 - 300 * (20 + 20 + 3 + 1 + 5) / 100);
    }

    private static void alike() {
        int[][] rows = {{1, 12345, 1, 12345, 1}, {1, 12345, 2, 12345, 1}, {1, 12345, 1, 12346, 1}, {1, 12345, 1, 12355, 1},
            {1, 12345, 1, 12945, 1}, {1, 12345, 1, 10345, 1}, {1, 12345, 1, 22345, 1}, {1, 12345, 1, 2345, 1},
            {1, 12345, 1, 12356, 0}, {1, 12345, 1, 22346, 0}, {1, 12345, 2, 12346, 0}, {1, 9999, 1, 10000, 0},
            {1, 9, 1, 10, 0}, {1, 0, 1, 90000, 1}, {1, 0, 1, 9, 1}, {1, 0, 1, 99, 0}, {0, 99999, 9999, 99999, 1},
            {9999, 0, 9999, 10000, 1}, {9999, 0, 9998, 10000, 0}};
        for (int[] r : rows) {
            ShipOffice x = begin("ALIKE: one digit at most, or MARKS the same");
            x.man(r[0], r[1], 0);
            x.man(r[2], r[3], 0);
            due(r[0] + " " + r[1] + " and " + r[2] + " " + r[3], x.group(1), r[4] == 1 ? 0 : 1);
        }
    }

    private static void groups() {
        ShipOffice x = begin("GROUPS of one");
        for (int m = 0; m < 40; m++) x.man(m, m, 0);
        for (int m = 0; m < 40; m++) due("alone", x.group(m), m);
        x = begin("GROUPS join by way of others");
        for (int m = 0; m < 40; m++) x.man(7, m, 0);
        for (int m = 0; m < 40; m++) due("of the first", x.group(m), 0);
        x = begin("GROUPS joined by the last man");
        x.man(1, 11, 0);
        x.man(2, 22, 0);
        x.man(2, 33, 0);
        x.man(2, 32, 0);
        due("the second and the third", x.group(2), 1);
        due("not the first", x.group(3), 1);
        x.man(2, 12, 0);
        due("the second's", x.group(4), 1);
        x.man(1, 12, 0);
        due("all by the last", x.group(2), 0);
        due("the last", x.group(5), 0);
    }

    /** Two men whose papers are shown; the third is ALIKE with the first. */
    private static ShipOffice papers(String about) {
        ShipOffice x = begin(about);
        x.man(1, 11111, 0);
        x.man(2, 22222, 0);
        x.man(1, 11112, 0);
        for (int ship = 0; ship < 4; ship++) x.voyage(ship, 0);
        x.sign(0, 0, 30, 0, -1);
        x.off(0, 0);
        return x;
    }

    private static void papersOfOthers() {
        ShipOffice x = papers("a PAPER of a man of another GROUP");
        x.sign(0, 0, 30, 0, 0);
        due("his own", x.borrowed(1), 0);
        due("none", x.borrowed(0), 0);
        x = papers("a PAPER of a man of another GROUP");
        x.sign(1, 0, 30, 0, 0);
        due("another's", x.borrowed(1), 1);
        x.off(1, 0);
        due("another's, OFF", x.borrowed(1), 1);
        x = papers("a PAPER of a man of another GROUP");
        x.sign(2, 0, 30, 0, 0);
        due("of his GROUP", x.borrowed(1), 0);
    }

    private static void papersShownTwice() {
        int[][] rows = {{0, 0, 1}, {1, 1, 0}, {0, 1, 1}};
        for (int[] r : rows) {
            ShipOffice x = papers("a PAPER shown twice, OFF " + r[0] + ", " + r[1] + " DAYS between");
            x.sign(0, 0, 30, 0, 0);
            x.days(5);
            if (r[0] == 1) x.off(1, 0);
            if (r[1] > 0) x.days(r[1]);
            x.sign(2, 1, 30, 0, 0);
            due("the first", x.borrowed(1), r[2]);
            due("the second", x.borrowed(2), r[2]);
            due("the paper", x.borrowed(0), 0);
            x.days(5);
            due("later", x.borrowed(1), r[2]);
        }
        ShipOffice x = papers("a PAPER shown twice on the DAY of OFF");
        x.sign(0, 0, 30, 0, 0);
        x.days(5);
        x.off(1, 0);
        x.sign(2, 1, 30, 0, 0);
        due("both too", x.borrowed(1), 1);
        due("both too", x.borrowed(2), 1);
        x = papers("another PAPER of the same man");
        x.sign(0, 0, 30, 0, 0);
        x.off(1, 0);
        x.sign(0, 0, 30, 0, 0);
        x.sign(2, 1, 30, 0, 1);
        due("the first paper, shown twice", x.borrowed(2), 1);
        due("the second paper, shown once", x.borrowed(3), 0);
    }

    private static void home() {
        ShipOffice x = begin("the least MILES by PORTS");
        x.man(1, 1, 0);
        x.voyage(0, 9);
        x.sign(0, 0, 30, 0, -1);
        x.left(0, 0, 1, 9);
        due("the same PORT", x.home(0), 0);
        x.left(0, 0, 1, 0);
        due("no way", x.home(0), -9);
        for (int p = 0; p < 8; p++) x.miles(p + 1, p, 9999);
        due("no way to the last", x.home(0), -9);
        x.miles(8, 9, 9999);
        due("the longest way", x.home(0), 9 * 9999);
        x.miles(0, 9, 9999);
        due("straight", x.home(0), 9999);
        x.miles(0, 5, 1);
        x.miles(9, 5, 9998);
        due("as long by a PORT", x.home(0), 9999);
        x.miles(9, 5, 9997);
        due("shorter by a PORT", x.home(0), 9998);
        x.miles(5, 0, 0);
        due("none any more", x.home(0), 9999);
        x.miles(9, 0, 1);
        due("1", x.home(0), 1);
        x = begin("the longest way, from the last PORT to the first");
        Bounds.signed(x);
        x.left(0, 0, 1, 9);
        for (int p = 0; p < 9; p++) x.miles(p, p + 1, 9999);
        due("by all", x.home(0), 9 * 9999);
        x = begin("a short step to a long way");
        x.man(1, 1, 0);
        x.voyage(0, 9);
        x.sign(0, 0, 30, 0, -1);
        x.left(0, 0, 1, 0);
        x.miles(0, 1, 10);
        x.miles(1, 9, 10);
        x.miles(0, 2, 1);
        x.miles(2, 9, 100);
        due("by 1", x.home(0), 20);
        x.miles(2, 1, 8);
        due("by 2 and 1", x.home(0), 19);
        x.miles(2, 1, 9);
        due("as long", x.home(0), 20);
        x.miles(8, 9, 1);
        x.miles(1, 8, 1);
        due("by 8 at the last", x.home(0), 12);
    }

    private static void crewOfTwelve() {
        ShipOffice x = begin("of the first 12 who ASK and are free");
        x.voyage(0, 0);
        for (int m = 0; m < 15; m++) {
            x.man(m, 100 * m, 0);
            if (m != 4) x.ask(m, 0, 100 - m);
        }
        x.sign(2, 0, 30, 0, -1);
        due("the 12th is the 14th man", x.crew(1, 1), 13);
        due("his WAGE", x.crew(1, 0), 87);
        x.ask(0, 0, 0);
        due("one less asks", x.crew(1, 1), 14);
        x.ask(0, 3, 1);
        due("who asks at another RANK is of the 12", x.crew(1, 1), 13);
        x.off(0, 0);
        due("one more is free", x.crew(1, 1), 12);
        due("two of the 12", x.crew(2, 0), 88 + 89);
        due("rising", x.crew(2, 1), 11);
        due("rising", x.crew(2, 2), 12);
        x = begin("just enough");
        for (int m = 0; m < 8; m++) {
            x.man(m, 100 * m, 0);
            for (int rank = 0; rank < 4; rank++) x.ask(m, rank, 1);
        }
        due("8 hands of 8 men", x.crew(80, 0), 8);
        for (int i = 0; i < 8; i++) due("hand " + i, x.crew(80, i + 1), i);
        for (int rank = 0; rank < 4; rank++) x.ask(7, rank, 0);
        due("8 hands of 7 men", x.crew(80, 0), -9);
    }

    private static void crewFirstWay() {
        ShipOffice x = begin("of several ways the first");
        for (int m = 0; m < 4; m++) {
            x.man(m, 100 * m, 0);
            x.ask(m, 0, 5);
            x.ask(m, 1, 5);
        }
        int[] first = {0, 1, 2, 3};
        for (int i = 0; i < 4; i++) due("hand " + i, x.crew(8, i + 1), first[i]);
        x.ask(0, 1, 4);
        int[] second = {1, 2, 0, 3};
        for (int i = 0; i < 4; i++) due("a penny less at RANK 1, hand " + i, x.crew(8, i + 1), second[i]);
        due("the sum", x.crew(8, 0), 19);
        x.ask(1, 0, 6);
        int[] third = {2, 3, 0, 1};
        for (int i = 0; i < 4; i++) due("a penny more at RANK 0, hand " + i, x.crew(8, i + 1), third[i]);
        due("the sum", x.crew(8, 0), 19);
    }

    private static void accountOfTwelve() {
        for (int men : new int[] {0, 1, 11, 12, 13}) {
            for (int ints : new int[] {0, 1, 11, 12}) {
                ShipOffice x = begin("an account of " + ints + " for " + men);
                x.voyage(0, 0);
                x.voyage(1, 0);
                for (int m = 0; m < men; m++) {
                    x.man(m, 100 * m, 0);
                    x.sign(m, 0, 30 * (m + 1), 0, -1);
                }
                for (int i = 1; i <= ints; i++) x.put(i);
                due("the first that is wrong", x.check(0, 0, 0), men == ints ? -9 : Math.min(men, ints));
                due("the row has none", x.count(9), 0);
                for (int i = 1; i <= ints; i++) x.put(i == ints ? i + 1 : i);
                int wrong = ints > 0 && ints <= men ? ints - 1 : men == ints ? -9 : Math.min(men, ints);
                due("the last is wrong", x.check(0, 0, 0), wrong);
            }
        }
        ShipOffice x = begin("those of the voyage, by numbers");
        x.voyage(0, 0);
        x.voyage(1, 0);
        for (int m = 0; m < 6; m++) {
            x.man(m, 100 * m, 0);
            x.sign(m, m % 2, 30 * (m + 1), 0, -1);
        }
        x.put(2);
        x.put(4);
        x.put(6);
        due("voyage 1", x.check(1, 0, 0), -9);
        x.put(1);
        x.put(3);
        x.put(4);
        due("voyage 0", x.check(0, 0, 0), 2);
    }
}
