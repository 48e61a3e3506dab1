/** A run or more for each promise of the document: ordinary inputs, the edges it names, wrong inputs. */
public final class PromiseTest {
    private static final int LOW = Integer.MIN_VALUE;
    private static final int HIGH = Integer.MAX_VALUE;
    private static int wrong;
    private static int promise;
    private static int step;
    private static ShipOffice x;

    /** A new object for a promise. */
    private static void begin(int number) {
        promise = number;
        step = 0;
        x = new ShipOffice();
    }

    private static void due(long got, long want) {
        step++;
        if (got != want) {
            wrong++;
            System.out.println("promise " + promise + ", step " + step + ": answered " + got + ", due is " + want);
        }
    }

    private static int feed(String text) {
        int all = 0;
        for (int at = 0; at < text.length(); at += 8) {
            int n = Math.min(8, text.length() - at);
            long bytes = 0;
            for (int i = n - 1; i >= 0; i--) {
                bytes = bytes << 8 | text.charAt(at + i);
            }
            all = x.feed(n, bytes);
        }
        return all;
    }

    private static int act(int purpose, int day, String text) {
        feed(text);
        return x.act(purpose, day);
    }

    /** A man, aged 20 years on day 0, on a voyage of ship 0 from port 0; agreement 0. */
    private static void signOne(int wage) {
        due(x.man(1, 11111, -7300), 0);
        due(x.voyage(0, 0), 0);
        due(x.sign(0, 0, wage, 2, -1), 0);
    }

    public static void main(String[] args) {
        newObject();
        days();
        miles();
        men();
        voyages();
        ended();
        sailedHeardLost();
        leftDiedBack();
        feeding();
        faults();
        daysAboard();
        leastSums();
        actsInForce();
        worths();
        letters();
        signing();
        off();
        states();
        statesAsKnown();
        earning();
        advances();
        allotments();
        fines();
        rations();
        owed();
        forfeits();
        agreementOf();
        aboard();
        groups();
        borrowed();
        home();
        crews();
        accounts();
        counts();
        refusedChangesNothing();
        System.out.println(wrong == 0 ? "all promises hold" : wrong + " answers are not as due");
        if (wrong != 0) System.exit(1);
    }

    private static void newObject() {
        begin(1);
        for (int what = 0; what <= 17; what++) due(x.count(what), what == 10 ? -9 : 0);
        due(x.group(0), -1);
        due(x.agreementOf(0, 0), -1);
        due(x.crew(0, 0), 0);
        due(x.miles(0, 1, 0), 0);
    }

    private static void days() {
        begin(2);
        due(x.days(1), 1);
        due(x.days(0), -4);
        due(x.days(LOW), -4);
        due(x.days(HIGH), -6);
        due(x.days(3000), -6);
        due(x.days(2999), 3000);
        due(x.days(1), -6);
        due(x.count(0), 3000);
        due(x.count(14), 2);
        due(x.count(16), 3);
    }

    private static void miles() {
        begin(3);
        due(x.miles(2, 3, 40), 0);
        due(x.miles(3, 2, 50), 40);
        due(x.miles(2, 3, 0), 50);
        due(x.miles(2, 3, 9999), 0);
        due(x.miles(2, 2, 5), -1);
        due(x.miles(-1, 2, 5), -1);
        due(x.miles(2, 10, -5), -1);
        due(x.miles(2, 3, -1), -4);
        due(x.miles(2, 3, 10000), -6);
        due(x.miles(3, 2, 1), 9999);
    }

    private static void men() {
        begin(4);
        due(x.man(9999, 99999, -30000), 0);
        due(x.man(0, 0, 0), 1);
        due(x.man(-1, 0, 0), -4);
        due(x.man(0, -1, 0), -4);
        due(x.man(0, 0, -30001), -4);
        due(x.man(10000, 0, -30001), -4);
        due(x.man(10000, 0, 0), -6);
        due(x.man(0, 100000, 0), -6);
        due(x.man(0, 0, 1), -6);
        due(x.days(1), 1);
        due(x.man(0, 0, 1), 2);
        for (int i = 3; i < 40; i++) due(x.man(i, i, 0), i);
        due(x.man(0, 0, 0), -6);
        due(x.count(1), 40);
    }

    private static void voyages() {
        begin(5);
        due(x.voyage(-1, 0), -1);
        due(x.voyage(10, 0), -1);
        due(x.voyage(0, -1), -1);
        due(x.voyage(9, 9), 0);
        due(x.voyage(9, 0), -3);
        due(x.ended(0, 1), 0);
        due(x.voyage(9, 0), 1);
        due(x.lost(1, 0), 1);
        due(x.voyage(9, 0), -3);
        for (int i = 2; i < 20; i++) {
            due(x.voyage(3, 0), i);
            if (i < 19) due(x.ended(i, 0), 0);
        }
        due(x.voyage(3, 0), -3);
        due(x.voyage(4, 0), -6);
        due(x.count(2), 20);
        due(x.count(3), 2);
    }

    private static void ended() {
        begin(6);
        signOne(300);
        due(x.man(2, 22222, 0), 1);
        due(x.man(3, 33333, 0), 2);
        due(x.sign(1, 0, 300, 0, -1), 1);
        due(x.sign(2, 0, 300, 0, -1), 2);
        due(x.died(1, 0), 1);
        due(x.ended(0, 10), -1);
        due(x.ended(1, 0), -1);
        due(x.days(4), 4);
        due(x.ended(0, 9), 2);
        due(x.ended(0, 9), -3);
        due(x.agreementOf(0, 5), 4);
        due(x.agreementOf(1, 5), -9);
        due(x.sign(0, 0, 300, 0, -1), -3);
        due(x.sailed(0, 4), -3);
        due(x.heard(0, 4), -3);
        due(x.lost(0, 4), -3);
        due(x.voyage(1, 1), 1);
        due(x.lost(1, 4), 2);
        due(x.ended(1, 0), -3);
        due(x.count(5), 0);
    }

    private static void sailedHeardLost() {
        begin(7);
        due(x.days(5), 5);
        due(x.voyage(0, 0), 0);
        due(x.days(5), 10);
        due(x.sailed(0, 4), -4);
        due(x.sailed(0, 11), -6);
        due(x.sailed(-1, 5), -1);
        due(x.sailed(0, 5), 1);
        due(x.sailed(0, 6), -3);
        due(x.sailed(0, 4), -3);
        promise = 8;
        due(x.heard(0, 4), -4);
        due(x.heard(0, 11), -6);
        due(x.heard(1, 5), -1);
        due(x.heard(0, 5), 2);
        due(x.heard(0, 10), 3);
        promise = 9;
        due(x.lost(0, 4), -4);
        due(x.lost(0, 11), -6);
        due(x.lost(HIGH, 5), -1);
        due(x.lost(0, 10), 4);
        due(x.lost(0, 10), -3);
        due(x.heard(0, 10), 5);
        begin(8);
        due(x.voyage(0, 0), 0);
        due(x.voyage(1, 0), 1);
        for (int i = 1; i <= 200; i++) due(x.heard(0, 0), i);
        due(x.heard(0, 0), -6);
        due(x.sailed(0, 0), -6);
        due(x.lost(0, 0), -6);
        due(x.man(1, 1, 0), 0);
        due(x.sign(0, 1, 1, 0, -1), 0);
        due(x.left(0, 0, 0, 0), -6);
        due(x.back(0, 0), -6);
        due(x.died(0, 0), -6);
        due(x.agreementOf(0, 9), 1);
        due(x.count(6), 200);
    }

    private static void leftDiedBack() {
        begin(10);
        due(x.days(3), 3);
        signOne(300);
        due(x.days(3), 6);
        due(x.left(1, 3, 0, 0), -1);
        due(x.left(0, 3, 3, 10), -1);
        due(x.left(0, 2, 3, 0), -2);
        due(x.left(0, 2, -1, 0), -2);
        due(x.left(0, 2, 0, 0), -4);
        due(x.left(0, 7, 0, 0), -6);
        due(x.left(0, 3, 2, 9), 1);
        due(x.state(0, 3, 6), 3);
        promise = 12;
        due(x.back(0, 2), -4);
        due(x.back(0, 7), -6);
        due(x.back(1, 3), -1);
        due(x.back(0, 3), 2);
        due(x.state(0, 3, 6), 0);
        promise = 11;
        due(x.died(0, 2), -4);
        due(x.died(0, 7), -6);
        due(x.died(-1, 3), -1);
        due(x.died(0, 5), 3);
        due(x.died(0, 4), 4);
        due(x.state(0, 3, 6), 0);
        due(x.state(0, 4, 6), 4);
        due(x.agreementOf(0, 9), 0);
        due(x.left(0, 6, 0, 0), 5);
        due(x.state(0, 6, 6), 4);
        begin(10);
        signOne(300);
        due(x.off(0, 0), 1);
        due(x.left(0, 9, 0, 0), -3);
        due(x.died(0, -1), -3);
        due(x.back(0, 9), -3);
    }

    private static void feeding() {
        begin(13);
        due(x.feed(0, 0), -4);
        due(x.feed(LOW, 0), -4);
        due(x.feed(9, 0), -6);
        due(x.feed(8, -1L), 8);
        due(x.act(0, 0), -20);
        for (int i = 1; i <= 7; i++) due(x.feed(8, 0x3131313131313131L), 8 * i);
        due(x.feed(5, 0), -6);
        due(x.feed(4, 0), 60);
        due(x.feed(1, 0), -6);
        due(x.count(8), 60);
        due(x.act(0, 0), -25);
        due(x.count(8), 0);
        due(x.feed(2, 0x2B31L), 2);
        due(x.feed(1, 0x32L), 3);
        due(x.act(0, 0), 1);
    }

    private static void faults() {
        begin(14);
        String[] texts = {"", "+", "1+", "1+2)", "(1", "(1<", "(1<2", "(1<2<3)", "1<2", "()", "(+1)", "123456", "12345a",
            "a1", "1a", "aa", "((((((1))))))", "(((((1)))))", "(1=2)(", "1 +2", "w*r/a+d-n*s+l/x", "b", "-1", "1--1",
            "((1<2)>(3=4))", "(1)2", "(((((1+((", "2**3", "(1+2", "(w>1)+(w"};
        int[] places = {0, 0, 2, 3, 2, 3, 4, 4, 1, 1, 1, 5, 5, 1, 1, 1, 5, -1, 5, 1, -1, 0, 0, 2, -1, 3, 7, 2, 4, 8};
        int acts = 0;
        for (int i = 0; i < texts.length; i++) {
            due(act(4, 3000, texts[i]), places[i] < 0 ? ++acts : -20 - places[i]);
            due(x.count(8), 0);
        }
        due(x.count(7), acts);
        for (int what = 11; what <= 16; what++) due(x.count(what), 0);
        due(x.days(10), 10);
        due(feed("1"), 1);
        due(x.act(5, 9), -2);
        due(x.act(-1, 10), -2);
        due(x.act(0, 9), -4);
        due(x.act(0, 3001), -6);
        due(x.count(8), 1);
        due(x.act(0, 10), ++acts);
        while (acts < 30) due(act(1, 10, "s"), ++acts);
        due(act(1, 10, "("), -6);
        due(x.count(8), 1);
    }

    private static void actsInForce() {
        begin(14);
        signOne(1000);
        due(act(1, 5, "5"), 1);
        due(act(1, 5, "6"), 2);
        due(act(1, 9, "9"), 3);
        due(act(1, 7, "7"), 4);
        due(x.days(12), 12);
        int[] days = {4, 5, 6, 7, 8, 9};
        int[] standing = {500, 6, 6, 7, 7, 9};
        for (int i = 0; i < days.length; i++) {
            due(x.fine(0, days[i], 500, false), i + 1);
            due(x.stands(0, i, 12), standing[i]);
        }
    }

    /** What a text is worth shows in what stands of a fine of 9999, up to that. */
    private static void worths() {
        begin(14);
        signOne(1000);
        due(x.fine(0, 0, 9999, false), 1);
        String[] texts = {"7/2", "0-7/2", "10-(0-7)/2", "7/0+4", "2+3*4", "20/3*3", "20-5-5", "(1<2)+(2<1)", "(2=2)*10",
            "(3>2)+(2>3)*5", "(2+3)*4", "99999*99999/99999/10", "(0-99999)*99999/(0-99999)/10", "99999*99999+5-99999*10000-9000",
            "00012", "0-5", "(5/(1-1))+1", "((1<2)<(3>2))", "99999", "2*(3+4*(1+(2>1)))"};
        int[] worth = {3, 0, 13, 4, 14, 18, 10, 1, 10, 1, 20, 1000, 1000, 1000, 12, 0, 1, 0, 9999, 22};
        for (int i = 0; i < texts.length; i++) {
            due(act(1, 0, texts[i]), i + 1);
            due(x.stands(0, 0, 0), worth[i]);
        }
    }

    private static void letters() {
        begin(14);
        signOne(1000);
        due(x.man(2, 22222, 0), 1);
        due(x.sign(1, 0, 10, 0, -1), 1);
        due(x.days(10), 10);
        due(x.sailed(0, 4), 1);
        due(x.left(0, 6, 1, 0), 2);
        due(x.back(0, 8), 3);
        due(x.heard(0, 7), 4);
        due(x.fine(0, 9, 77, true), 1);
        due(x.fine(0, 3, 77, false), 2);
        String[] letters = {"w", "r", "a", "d", "n", "s", "l", "x"};
        int[] first = {77, 2, 20, 4, 2, 77, 2, 1};
        int[] second = {77, 2, 20, 0, 0, 77, 0, 0};
        for (int i = 0; i < letters.length; i++) {
            due(x.act(1, 10), -20);
            due(act(1, 10, letters[i]), i + 1);
        }
        due(x.stands(0, 0, 10), 77);
        for (int i = 0; i < letters.length; i++) {
            begin(14);
            signOne(1000);
            due(x.man(2, 22222, 0), 1);
            due(x.sign(1, 0, 10, 0, -1), 1);
            due(act(1, 0, letters[i]), 1);
            due(x.days(10), 10);
            due(x.fine(0, 9, 77, true), 1);
            due(x.fine(0, 3, 77, false), 2);
            due(x.sailed(0, 4), 1);
            due(x.left(0, 6, 1, 0), 2);
            due(x.back(0, 8), 3);
            due(x.heard(0, 7), 4);
            due(x.stands(0, 0, 10), first[i]);
            due(x.stands(0, 1, 10), second[i]);
            due(x.stands(0, 0, 9), new int[] {77, 2, 20, 0, 0, 77, 0, 1}[i]);
        }
    }

    /** d and l where the voyage is not known of for a while, and is heard of on day 0 at the last. */
    private static void daysAboard() {
        begin(14);
        signOne(1000);
        due(act(4, 0, "5"), 1);
        due(act(1, 0, "d*100+l"), 2);
        due(x.sailed(0, 0), 1);
        due(x.days(30), 30);
        due(x.fine(0, 22, 9999, true), 1);
        due(x.fine(0, 5, 9999, true), 2);
        due(x.fine(0, 19, 9999, true), 3);
        due(x.stands(0, 0, 30), 622);
        due(x.heard(0, 20), 2);
        due(x.stands(0, 0, 30), 902);
        due(x.stands(0, 0, 29), 622);
        due(x.stands(0, 1, 30), 605);
        due(x.stands(0, 2, 30), 619);
    }

    private static void leastSums() {
        begin(19);
        signOne(1);
        due(x.days(100), 100);
        due(x.advance(0, 1), 1);
        due(x.owed(0, 29, 100), 1);
        due(act(3, 100, "100"), 1);
        due(x.allot(0, 1), 1);
        due(x.sailed(0, 0), 1);
        due(x.owed(0, 2, 100), 0);
        due(x.owed(0, 3, 100), -1);
        due(x.owed(0, 29, 100), 0);
        due(x.owed(0, 30, 100), -1);
        begin(26);
        signOne(30);
        due(x.days(1), 1);
        due(x.left(0, 1, 0, 0), 1);
        due(x.owed(0, 0, 1), 1);
        due(x.owed(0, 1, 1), 0);
        begin(20);
        signOne(30);
        due(x.advance(0, 3), 1);
        due(x.sold(0, 1), 2);
    }

    private static void signing() {
        begin(15);
        due(x.man(1, 11111, -364), 0);
        due(x.man(2, 22222, 0), 1);
        due(x.voyage(0, 0), 0);
        due(x.voyage(1, 0), 1);
        due(x.sign(2, 0, 0, 0, -1), -1);
        due(x.sign(0, 2, 0, 0, -1), -1);
        due(x.sign(0, 0, 0, 0, 0), -1);
        due(x.sign(0, 0, 0, 0, -2), -1);
        due(x.sign(0, 0, 0, 4, -1), -4);
        due(x.sign(0, 0, 10000, -1, -1), -4);
        due(x.sign(0, 0, 10000, 0, -1), -6);
        due(x.sign(0, 0, 1, 4, -1), -6);
        due(act(0, 0, "a"), 1);
        due(x.sign(0, 0, 1, 0, -1), -3);
        due(x.days(1), 1);
        due(x.sign(0, 0, 9999, 3, -1), 0);
        due(x.sign(1, 0, 1, 0, -1), -3);
        due(act(0, 1, "r-w+d+n+s+l+x+10"), 2);
        due(x.sign(1, 0, 13, 3, -1), -3);
        due(x.group(1), 1);
        due(x.sign(1, 0, 12, 3, 0), -3);
        due(x.sign(1, 0, 12, 3, -1), 1);
        due(act(0, 1, "1"), 3);
        due(x.sign(0, 1, 1, 0, -1), -3);
        due(x.off(0, 0), 1);
        due(x.sign(0, 1, 1, 0, 0), 2);
        due(x.left(2, 1, 0, 0), 1);
        due(x.sign(0, 1, 1, 0, -1), -3);
        due(x.died(2, 1), 2);
        due(x.sign(0, 1, 1, 0, -1), 3);
        due(x.sailed(1, 1), 3);
        due(x.off(3, 0), 1);
        due(x.sign(0, 1, 1, 0, -1), -3);
        due(x.lost(0, 1), 4);
        due(x.agreementOf(1, 9), 0);
        due(x.sign(0, 0, 1, 0, -1), -3);
        due(x.voyage(2, 0), 2);
        due(x.sign(1, 2, 1, 0, 1), -3);
        due(x.sign(1, 2, 1, 0, -1), 4);
        begin(15);
        due(x.man(1, 1, 0), 0);
        due(x.voyage(0, 0), 0);
        for (int i = 0; i < 60; i++) {
            due(x.sign(0, 0, 1, 0, i - 1), i);
            due(x.off(i, 0), 1);
        }
        due(x.sign(0, 0, 1, 0, -1), -6);
        due(x.sign(0, 0, 1, -1, -1), -4);
    }

    private static void off() {
        begin(16);
        signOne(300);
        due(x.off(1, 0), -1);
        due(x.off(0, 10), -1);
        due(x.days(2), 2);
        due(x.off(0, 3), 1);
        due(x.off(0, 3), -3);
        due(x.state(0, 1, 2), 0);
        due(x.state(0, 2, 2), 5);
        due(x.sign(0, 0, 300, 0, -1), 1);
        due(x.lost(0, 2), 1);
        due(x.off(1, 3), -3);
        due(x.count(5), 0);
        begin(16);
        signOne(300);
        due(x.died(0, 0), 1);
        due(x.off(0, 3), -3);
    }

    private static void states() {
        begin(17);
        due(x.days(2), 2);
        signOne(300);
        due(x.days(198), 200);
        due(x.state(0, 1, 200), -9);
        due(x.state(0, 2, 200), 0);
        due(x.state(0, 200, 200), 0);
        due(x.sailed(0, 10), 1);
        due(x.state(0, 9, 200), 0);
        due(x.state(0, 10, 200), 1);
        due(x.state(0, 100, 200), 1);
        due(x.state(0, 101, 200), 2);
        due(x.heard(0, 60), 2);
        due(x.state(0, 150, 200), 1);
        due(x.state(0, 151, 200), 2);
        due(x.left(0, 170, 0, 1), 3);
        due(x.state(0, 169, 200), 2);
        due(x.state(0, 170, 200), 3);
        due(x.back(0, 170), 4);
        due(x.state(0, 170, 200), 2);
        due(x.left(0, 165, 1, 1), 5);
        due(x.state(0, 165, 200), 3);
        due(x.state(0, 170, 200), 2);
        due(act(4, 200, "139+w+r+a+d+n+s+l+x"), 1);
        due(x.state(0, 200, 200), 2);
        due(act(4, 200, "140"), 2);
        due(x.state(0, 200, 200), 1);
        due(x.lost(0, 180), 6);
        due(x.state(0, 179, 200), 2);
        due(x.state(0, 180, 200), 4);
        due(x.state(0, -1, 200), -4);
        due(x.state(0, 201, -1), -4);
        due(x.state(0, 10, 9), -3);
        due(x.state(0, 10, 201), -3);
        due(x.state(1, -1, 9), -1);
    }

    private static void statesAsKnown() {
        begin(17);
        signOne(300);
        due(x.sailed(0, 0), 1);
        due(x.days(10), 10);
        due(x.left(0, 5, 2, 1), 2);
        due(x.days(10), 20);
        due(x.back(0, 3), 3);
        due(x.back(0, 15), 4);
        due(x.days(10), 30);
        due(x.died(0, 8), 5);
        due(x.state(0, 5, 5), 1);
        due(x.state(0, 9, 9), 1);
        due(x.state(0, 9, 10), 3);
        due(x.state(0, 5, 20), 3);
        due(x.state(0, 4, 20), 1);
        due(x.state(0, 14, 20), 3);
        due(x.state(0, 15, 20), 1);
        due(x.state(0, 15, 19), 3);
        due(x.state(0, 7, 30), 3);
        due(x.state(0, 8, 29), 3);
        due(x.state(0, 8, 30), 4);
        begin(17);
        signOne(300);
        due(x.off(0, 0), 1);
        due(x.days(1), 1);
        due(x.lost(0, 1), 1);
        due(x.state(0, 0, 1), 5);
        due(x.state(0, 1, 1), 4);
    }

    private static void earning() {
        begin(18);
        due(x.days(2), 2);
        signOne(300);
        due(x.days(198), 200);
        due(x.earns(0, 1, 200), 0);
        due(x.earns(0, 2, 200), 1);
        due(x.earns(0, 200, 200), 199);
        due(x.sailed(0, 10), 1);
        due(x.earns(0, 100, 200), 99);
        due(x.earns(0, 101, 200), 9);
        due(x.heard(0, 195), 2);
        due(x.earns(0, 200, 200), 199);
        due(x.earns(0, 150, 200), 9);
        due(x.left(0, 20, 1, 1), 3);
        due(x.back(0, 30), 4);
        due(x.earns(0, 20, 200), 18);
        due(x.earns(0, 29, 200), 18);
        due(x.earns(0, 30, 200), 19);
        due(x.earns(0, 200, 200), 189);
        due(x.off(0, 0), 1);
        due(x.earns(0, 200, 200), 188);
        due(x.earns(0, 199, 199), 198);
        due(x.earns(1, 0, 0), -1);
        due(x.earns(0, -1, 0), -4);
        due(x.earns(0, 0, -1), -4);
        due(x.earns(0, 1, 0), -3);
        due(x.earns(0, 0, 201), -3);
    }

    private static void advances() {
        begin(19);
        signOne(3000);
        due(x.advance(1, 0), -1);
        due(x.advance(0, 0), -4);
        due(x.advance(0, 100000), -6);
        due(x.advance(0, 99999), 1);
        due(x.advance(0, 0), -3);
        promise = 20;
        due(x.sold(1, 0), -1);
        due(x.sold(0, 0), -4);
        due(x.sold(0, LOW), -4);
        due(x.sold(0, 99999), -6);
        due(x.agreementOf(0, 7), -9);
        due(x.sold(0, 99998), 1);
        due(x.sold(0, 0), -3);
        promise = 19;
        due(x.days(5), 5);
        due(x.sailed(0, 1), 1);
        due(x.owed(0, 3, 5), 400);
        due(x.owed(0, 4, 5), 500 - 99999);
        due(x.left(0, 4, 1, 1), 2);
        due(x.owed(0, 5, 5), 400);
        due(x.back(0, 4), 3);
        due(x.owed(0, 5, 5), 600 - 99999);
        begin(19);
        signOne(3000);
        due(x.sailed(0, 0), 1);
        due(x.advance(0, 5), -3);
        due(x.sold(0, 5), -3);
        begin(19);
        signOne(3000);
        due(x.left(0, 0, 1, 1), 1);
        due(x.advance(0, 5), -3);
        due(x.back(0, 0), 2);
        due(x.advance(0, 5), 1);
    }

    private static void allotments() {
        begin(21);
        signOne(3001);
        due(x.allot(1, 0), -1);
        due(x.allot(0, 0), -4);
        due(x.allot(0, 10000), -6);
        due(x.allot(0, 1501), -6);
        due(x.allot(0, 1500), 1);
        due(x.allot(0, 0), -3);
        due(x.sailed(0, 0), 1);
        due(x.days(95), 95);
        due(x.heard(0, 95), 2);
        due(x.owed(0, 29, 95), 3001);
        due(x.owed(0, 30, 95), 3101 - 1500);
        due(x.owed(0, 90, 95), 3001 * 91 / 30 - 4500);
        due(x.left(0, 60, 1, 1), 3);
        due(x.back(0, 61), 4);
        due(x.owed(0, 90, 95), 3001 * 3 - 3000);
        begin(21);
        signOne(9999);
        due(act(3, 0, "s/10"), 1);
        due(x.allot(0, 9999), 1);
        begin(21);
        signOne(9999);
        due(act(3, 0, "99999*99999"), 1);
        due(x.allot(0, 10000), -6);
        due(act(3, 0, "0-99999*99999"), 2);
        due(x.allot(0, 1), -6);
        due(act(3, 1, "1"), 3);
        due(x.days(1), 1);
        due(x.allot(0, 100), -6);
        due(x.allot(0, 99), 1);
        begin(21);
        signOne(9999);
        due(x.off(0, 0), 1);
        due(x.allot(0, 0), -3);
    }

    private static void fines() {
        begin(22);
        due(x.days(4), 4);
        signOne(300);
        due(x.days(4), 8);
        due(x.fine(1, 4, 1, true), -1);
        due(x.fine(0, 3, 10000, true), -4);
        due(x.fine(0, 9, 0, true), -4);
        due(x.fine(0, 4, 10000, true), -6);
        due(x.fine(0, 9, 1, true), -6);
        due(x.fine(0, 8, 9999, true), 1);
        due(x.fine(0, 8, 30, false), 2);
        due(x.fine(0, 4, 30, false), 3);
        due(x.fine(0, 4, 30, true), 4);
        due(x.fine(0, 5, 1, true), 5);
        due(x.fine(0, 5, 1, true), 6);
        due(x.fine(0, 5, 1, true), -6);
        promise = 23;
        due(x.read(1, 0), -1);
        due(x.read(0, 6), -1);
        due(x.read(0, -1), -1);
        due(x.read(0, 0), -3);
        due(x.read(0, 1), 1);
        due(x.read(0, 1), -3);
        due(x.read(0, 2), -3);
        promise = 24;
        due(act(1, 8, "20*x"), 1);
        due(x.stands(0, 0, 8), 20);
        due(x.stands(0, 1, 8), 20);
        due(x.stands(0, 2, 8), 30);
        due(act(1, 8, "0-1"), 2);
        due(x.stands(0, 1, 8), 0);
        due(act(1, 8, "s*2"), 3);
        due(x.stands(0, 1, 0), 30);
        due(x.stands(0, 6, -1), -1);
        due(x.stands(0, -1, -1), -1);
        due(x.stands(1, 0, -1), -1);
        due(x.stands(0, 1, -1), -4);
        due(x.stands(0, 1, 9), -6);
        due(x.off(0, 0), 1);
        due(x.fine(0, 3, 0, true), -3);
        begin(23);
        signOne(300);
        due(x.fine(0, 0, 10, false), 1);
        due(x.days(1), 1);
        due(x.read(0, 0), -3);
    }

    private static void rations() {
        begin(25);
        signOne(30);
        due(x.rations(1, 0, 0), -1);
        due(x.rations(0, 0, 100), -4);
        due(x.rations(0, 1, 0), -4);
        due(x.rations(0, 1, 100), -6);
        due(x.rations(0, HIGH, 1), -6);
        due(x.rations(0, 980, 99), 980);
        due(x.rations(0, 20, 1), -6);
        due(x.days(1), 1);
        for (int i = 1; i <= 19; i++) due(x.rations(0, 1, 1), 980 + i);
        due(x.owed(0, 0, 0), 1 + 980 * 99);
        due(x.owed(0, 0, 1), 1 + 980 * 99 + 19);
        due(x.rations(0, 1, 1), -6);
        begin(25);
        signOne(30);
        for (int i = 1; i <= 20; i++) due(x.rations(0, 1, 1), i);
        due(x.rations(0, 1, 1), -6);
        due(x.man(2, 22222, 0), 1);
        due(x.sign(1, 0, 1, 0, -1), 1);
        due(x.rations(1, 999, 1), 999);
        due(x.off(1, 0), 1);
        due(x.rations(1, 1, 1), -6);
    }

    private static void owed() {
        begin(26);
        due(x.days(1), 1);
        signOne(100);
        due(x.days(9), 10);
        due(x.owed(0, 0, 10), 0);
        due(x.owed(0, 1, 10), 3);
        due(x.owed(0, 10, 10), 33);
        due(x.fine(0, 6, 20, true), 1);
        due(x.fine(0, 8, 20, true), 2);
        due(x.owed(0, 5, 10), 16);
        due(x.owed(0, 6, 10), 0);
        due(x.owed(0, 10, 10), -7);
        due(x.owed(0, 7, 7), 3);
        due(x.left(0, 10, 0, 1), 1);
        due(x.owed(0, 10, 10), -10);
        due(x.owed(1, -1, 0), 1000000001);
        due(x.owed(0, -1, 0), 1000000004);
        due(x.owed(0, 0, -1), 1000000004);
        due(x.owed(0, 1, 0), 1000000003);
        due(x.owed(0, 0, 11), 1000000003);
        due(x.count(11), 1);
        due(x.count(13), 2);
        due(x.count(14), 2);
    }

    private static void forfeits() {
        begin(26);
        signOne(301);
        due(x.days(30), 30);
        due(x.left(0, 30, 0, 1), 1);
        due(x.owed(0, 30, 30), 0);
        due(x.owed(0, 29, 30), 301);
        due(act(2, 30, "33"), 1);
        due(x.owed(0, 30, 30), 301 - 99);
        due(act(2, 30, "101"), 2);
        due(x.owed(0, 30, 30), 0);
        due(act(2, 30, "0-1"), 3);
        due(x.owed(0, 30, 30), 301);
        due(act(2, 30, "a+r+s+x"), 4);
        due(x.owed(0, 30, 30), 301 - 66);
        due(x.left(0, 30, 1, 1), 2);
        due(x.owed(0, 30, 30), 301);
        due(x.left(0, 30, 2, 1), 3);
        due(x.owed(0, 30, 30), 301);
        begin(26);
        signOne(9999);
        due(x.days(3000), 3000);
        due(x.left(0, 3000, 0, 1), 1);
        due(act(2, 3000, "99"), 1);
        due(x.owed(0, 3000, 3000), 999900 - 999900 * 99 / 100);
    }

    private static void agreementOf() {
        begin(27);
        due(x.man(0, 1, 0), 0);
        due(x.voyage(4, 0), 0);
        due(x.days(3), 3);
        due(x.man(1, 3333, 0), 1);
        due(x.voyage(5, 0), 1);
        due(x.sign(1, 1, 777, 3, -1), 0);
        due(x.advance(0, 50), 1);
        int[] before = {1, 1, 777, 3, 3, -9, 50, -9, 0, 1};
        for (int what = 0; what < 10; what++) due(x.agreementOf(0, what), before[what]);
        due(x.sold(0, 45), 5);
        due(x.allot(0, 9), 1);
        due(x.days(1), 4);
        due(x.off(0, 0), 1);
        int[] after = {1, 1, 777, 3, 3, 4, 50, 45, 9, 0};
        for (int what = 0; what < 10; what++) due(x.agreementOf(0, what), after[what]);
        due(x.agreementOf(0, 10), -2);
        due(x.agreementOf(0, -1), -2);
        due(x.agreementOf(1, 10), -1);
        due(x.agreementOf(-1, 0), -1);
    }

    private static void aboard() {
        begin(28);
        signOne(300);
        due(x.man(2, 22222, 0), 1);
        due(x.man(3, 33333, 0), 2);
        due(x.voyage(1, 0), 1);
        due(x.sign(1, 0, 1, 0, -1), 1);
        due(x.sign(2, 1, 1, 0, -1), 2);
        due(x.aboard(0, 0, 0), 0);
        due(x.days(4), 4);
        due(x.sailed(0, 2), 1);
        due(x.sailed(1, 2), 2);
        due(x.left(1, 3, 2, 0), 3);
        due(x.aboard(0, 1, 4), 0);
        due(x.aboard(0, 2, 4), 2);
        due(x.aboard(0, 2, 3), 0);
        due(x.aboard(0, 3, 4), 1);
        due(x.aboard(1, 4, 4), 1);
        due(x.aboard(2, -1, 4), -1);
        due(x.aboard(0, -1, 4), -4);
        due(x.aboard(0, 1, -1), -4);
        due(x.aboard(0, 4, 3), -3);
        due(x.aboard(0, 4, 5), -3);
    }

    private static void groups() {
        begin(29);
        due(x.man(1, 0, 0), 0);
        due(x.man(1, 11, 0), 1);
        due(x.group(1), 1);
        due(x.man(2, 10, 0), 2);
        due(x.group(2), 2);
        due(x.man(2, 11, 0), 3);
        due(x.group(3), 1);
        due(x.group(2), 1);
        due(x.man(1, 10, 0), 4);
        due(x.group(4), 0);
        due(x.group(2), 0);
        due(x.group(3), 0);
        due(x.man(1, 10010, 0), 5);
        due(x.group(5), 0);
        due(x.man(3, 10011, 0), 6);
        due(x.group(6), 6);
        due(x.group(7), -1);
        due(x.group(-1), -1);
    }

    private static void borrowed() {
        begin(30);
        due(x.man(1, 11111, 0), 0);
        due(x.man(1, 11112, 0), 1);
        due(x.man(2, 22222, 0), 2);
        for (int ship = 0; ship < 3; ship++) due(x.voyage(ship, 0), ship);
        due(x.sign(0, 0, 1, 0, -1), 0);
        due(x.borrowed(0), 0);
        due(x.borrowed(1), -1);
        due(x.borrowed(-1), -1);
        due(x.off(0, 0), 1);
        due(x.sign(1, 0, 1, 0, 0), 1);
        due(x.borrowed(1), 0);
        due(x.sign(2, 1, 1, 0, 0), 2);
        due(x.borrowed(2), 1);
        due(x.borrowed(1), 1);
        begin(30);
        due(x.man(1, 11111, 0), 0);
        due(x.man(2, 22222, 0), 1);
        due(x.voyage(0, 0), 0);
        due(x.sign(0, 0, 1, 0, -1), 0);
        due(x.off(0, 0), 1);
        due(x.sign(1, 0, 1, 0, 0), 1);
        due(x.borrowed(1), 1);
        due(x.man(2, 11111, 0), 2);
        due(x.borrowed(1), 1);
        due(x.man(2, 21111, 0), 3);
        due(x.man(2, 22111, 0), 4);
        due(x.man(2, 22211, 0), 5);
        due(x.borrowed(1), 1);
        due(x.man(2, 22221, 0), 6);
        due(x.borrowed(1), 0);
        due(x.days(5), 5);
        due(x.off(1, 0), 1);
        due(x.days(1), 6);
        due(x.sign(0, 0, 1, 0, 0), 2);
        due(x.borrowed(1), 0);
        due(x.borrowed(2), 0);
        due(x.days(1), 7);
        due(x.off(2, 0), 1);
        due(x.sign(1, 0, 1, 0, 0), 3);
        due(x.borrowed(2), 1);
        due(x.borrowed(3), 1);
        due(x.borrowed(1), 0);
    }

    private static void home() {
        begin(31);
        due(x.man(1, 1, 0), 0);
        due(x.voyage(0, 4), 0);
        due(x.home(0), -3);
        due(x.home(1), -1);
        due(x.sign(0, 0, 1, 0, -1), 0);
        due(x.home(0), -3);
        due(x.left(0, 0, 0, 7), 1);
        due(x.home(0), -3);
        due(x.left(0, 0, 2, 7), 2);
        due(x.home(0), -3);
        due(x.left(0, 0, 1, 7), 3);
        due(x.home(0), -9);
        for (int p = 0; p < 9; p++) due(x.miles(p, p + 1, 9999), 0);
        due(x.home(0), 3 * 9999);
        due(x.miles(7, 9, 1), 0);
        due(x.miles(9, 0, 1), 0);
        due(x.miles(0, 4, 5000), 0);
        due(x.home(0), 5002);
        due(x.miles(9, 7, 0), 1);
        due(x.home(0), 9999 + 9999 + 1 + 5000);
        due(x.days(1), 1);
        due(x.left(0, 1, 1, 4), 4);
        due(x.home(0), 0);
        due(x.back(0, 1), 5);
        due(x.home(0), -3);
        due(x.left(0, 1, 1, 3), 6);
        due(x.home(0), 9999);
        due(x.off(0, 3), 1);
        due(x.home(0), -3);
        begin(31);
        signOne(1);
        for (int p = 0; p < 9; p++) due(x.miles(p, p + 1, 9999), 0);
        due(x.left(0, 0, 1, 9), 1);
        due(x.home(0), 9 * 9999);
        due(x.died(0, 0), 2);
        due(x.home(0), -3);
    }

    private static void crews() {
        begin(32);
        due(x.man(1, 1, 0), 0);
        due(x.ask(1, -1, 0), -1);
        due(x.ask(0, -1, 10000), -4);
        due(x.ask(0, 4, -1), -4);
        due(x.ask(0, 4, 1), -6);
        due(x.ask(0, 3, 10000), -6);
        due(x.ask(0, 3, 9999), 0);
        due(x.ask(0, 3, 5), 9999);
        due(x.count(17), 1);
        due(x.ask(0, 3, 0), 5);
        due(x.count(17), 0);
        begin(33);
        for (int m = 0; m < 14; m++) {
            due(x.man(m, 100 * m, 0), m);
            if (m != 1) due(x.ask(m, m % 4, 100 - m), 0);
        }
        due(x.crew(-1, 9), -4);
        due(x.crew(81, 9), -6);
        due(x.crew(80, 9), -2);
        due(x.crew(80, -1), -2);
        // the first 12 who ask are 0 and 2 to 12
        due(x.crew(80, 0), 92 + 88 + 95 + 91 + 94 + 90 + 93 + 89);
        int[] crew = {8, 12, 5, 9, 6, 10, 7, 11};
        for (int i = 0; i < 8; i++) due(x.crew(80, i + 1), crew[i]);
        due(x.crew(3, 0), 91);
        due(x.crew(3, 1), 9);
        due(x.crew(3, 2), -9);
        due(x.ask(0, 0, 0), 100);
        due(x.crew(3, 0), 87);
        due(x.crew(3, 1), 13);
        due(x.voyage(0, 0), 0);
        due(x.sign(13, 0, 1, 0, -1), 0);
        due(x.crew(3, 0), 91);
        due(x.died(0, 0), 1);
        due(x.crew(3, 0), 87);
        begin(33);
        for (int m = 0; m < 4; m++) {
            due(x.man(m, 100 * m, 0), m);
            for (int r = 0; r < 4; r++) due(x.ask(m, r, 9999), 0);
        }
        due(x.crew(40, 0), 4 * 9999);
        for (int i = 0; i < 4; i++) due(x.crew(40, i + 1), i);
        due(x.crew(8, 0), 4 * 9999);
        for (int i = 0; i < 4; i++) due(x.crew(8, i + 1), i);
        due(x.crew(8, 5), -9);
        due(x.crew(41, 0), -9);
        due(x.crew(41, 1), -9);
        due(x.ask(0, 0, 9998), 9999);
        due(x.ask(3, 3, 9998), 9999);
        due(x.ask(2, 2, 9997), 9999);
        due(x.crew(36, 1), 2);
        due(x.crew(36, 2), 3);
        due(x.crew(4, 1), 0);
        due(x.crew(4, 2), 1);
    }

    private static void accounts() {
        begin(34);
        for (int i = 1; i <= 12; i++) due(x.put(i % 2 == 0 ? LOW : HIGH), i);
        due(x.put(0), -6);
        due(x.count(9), 12);
        begin(35);
        due(x.voyage(1, 0), 0);
        due(x.check(0, 0, 0), -9);
        due(x.put(0), 1);
        due(x.check(1, -1, 0), -1);
        due(x.check(0, -1, 0), -4);
        due(x.check(0, 0, -1), -4);
        due(x.check(0, 0, 1), -3);
        due(x.check(0, 1, 0), -3);
        due(x.count(9), 1);
        due(x.check(0, 0, 0), 0);
        due(x.count(9), 0);
        for (int m = 0; m < 13; m++) {
            due(x.man(m, 100 * m, 0), m);
            due(x.sign(m, 0, 30 * m + 30, 0, -1), m);
        }
        for (int i = 1; i <= 12; i++) due(x.put(i), i);
        due(x.check(0, 0, 0), 12);
        for (int i = 1; i <= 5; i++) due(x.put(i == 4 ? 9 : i), i);
        due(x.check(0, 0, 0), 3);
        due(x.count(9), 0);
        for (int i = 1; i <= 5; i++) due(x.put(i), i);
        due(x.check(0, 0, 0), 5);
        begin(35);
        signOne(300);
        due(x.fine(0, 0, 15, true), 1);
        due(x.put(-5), 1);
        due(x.check(0, 0, 0), -9);
        due(x.put(-5), 1);
        due(x.put(0), 2);
        due(x.check(0, 0, 0), 1);
    }

    private static void counts() {
        begin(36);
        signOne(300);
        due(x.voyage(1, 1), 1);
        due(x.ended(1, 1), 0);
        due(x.days(7), 7);
        due(x.heard(0, 7), 1);
        due(act(0, 7, "1"), 1);
        due(feed("ww"), 2);
        due(x.put(1), 1);
        due(x.ask(0, 1, 1), 0);
        int[] all = {7, 1, 2, 1, 1, 1, 1, 1, 2, 1, -9, 0, 0, 0, 0, 0, 0, 1, -9};
        for (int what = 0; what < all.length; what++) due(x.count(what), all[what]);
        due(x.count(-1), -9);
        due(x.count(HIGH), -9);
        due(x.count(LOW), -9);
        due(x.group(5), -1);
        due(x.act(9, 9), -2);
        due(x.act(9, 9), -2);
        due(x.voyage(0, 0), -3);
        due(x.days(0), -4);
        due(x.days(9999), -6);
        int[] refused = {1, 2, 1, 1, 0, 1};
        for (int i = 0; i < 6; i++) due(x.count(11 + i), refused[i]);
    }

    /** Odd arguments to every call: what can be seen stays as it was. */
    private static void refusedChangesNothing() {
        begin(36);
        signOne(300);
        due(feed("w"), 1);
        due(x.put(3), 1);
        int[] odd = {LOW, -3, HIGH};
        int before = 0;
        for (int what = 0; what <= 9; what++) before = before * 31 + x.count(what);
        for (int o : odd) {
            x.days(o);
            x.miles(o, o, o);
            x.man(o, o, o);
            x.voyage(o, o);
            x.ended(o, o);
            x.sailed(0, o);
            x.heard(0, o);
            x.lost(0, o);
            x.left(0, o, 0, 0);
            x.died(0, o);
            x.back(0, o);
            x.feed(o, o);
            x.act(0, o);
            x.sign(0, 0, o, o, -1);
            x.off(0, o);
            x.state(0, o, o);
            x.earns(0, o, o);
            x.advance(0, o);
            x.sold(0, o);
            x.allot(0, o);
            x.fine(0, o, o, true);
            x.read(0, o);
            x.stands(0, o, o);
            x.rations(0, o, o);
            x.owed(0, o, o);
            x.agreementOf(0, o);
            x.aboard(0, o, o);
            x.group(o);
            x.borrowed(o);
            x.home(o);
            x.ask(0, o, o);
            x.crew(o, o);
            x.check(0, o, o);
        }
        int after = 0;
        for (int what = 0; what <= 9; what++) after = after * 31 + x.count(what);
        due(after, before);
        int refused = 0;
        for (int what = 11; what <= 16; what++) refused += x.count(what);
        due(refused, 3 * 33);
    }
}
