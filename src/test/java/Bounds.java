import java.util.ArrayList;
import java.util.List;

/**
 * What the tests of the edges share: the scenes on which a call is made, the call that is let and the
 * call that is refused. A refused call is held against a twin of the office on which it was not made.
 */
final class Bounds {
    interface Call {
        int on(ShipOffice x);
    }

    interface Scene {
        void set(ShipOffice x);
    }

    interface Probe {
        void ask(ShipOffice x, List<Integer> answers);
    }

    static final int NOBODY = -1;
    static final int OTHER = -2;
    static final int STATE = -3;
    static final int BELOW = -4;
    static final int ROOM = -6;
    static final int LOW = Integer.MIN_VALUE;
    static final int HIGH = Integer.MAX_VALUE;
    private static final Probe[] PROBES = {Bounds::questions, Bounds::sums, Bounds::deeds};

    /** What the tests after it are about. */
    static String about = "";
    private static int wrong;
    private static int tests;

    private Bounds() {
    }

    static ShipOffice made(Scene scene) {
        ShipOffice x = new ShipOffice();
        scene.set(x);
        return x;
    }

    static void due(String what, long got, long want) {
        tests++;
        if (got != want) {
            wrong++;
            System.out.println(about + ": " + what + ": answered " + got + ", due is " + want);
        }
    }

    /** The call is let: its answer is due and no refusal is counted. */
    static void is(String what, Scene scene, Call call, int want) {
        ShipOffice x = made(scene);
        int[] before = refusals(x);
        due(what, call.on(x), want);
        due(what + ", refusals", changed(before, refusals(x)), 0);
    }

    /** The call is refused with the number, and changes nothing but how many such refusals there were. */
    static void no(String what, Scene scene, Call call, int number) {
        refused(what, scene, call, number, number);
    }

    /** As no, for a call whose answers may be below 0. */
    static void noSum(String what, Scene scene, Call call, int number) {
        refused(what, scene, call, number, 1000000000 - number);
    }

    private static void refused(String what, Scene scene, Call call, int number, int answer) {
        for (Probe probe : PROBES) {
            ShipOffice asked = made(scene);
            ShipOffice twin = made(scene);
            int[] before = refusals(asked);
            due(what, call.on(asked), answer);
            before[-number]++;
            due(what + ", its refusals", changed(before, refusals(asked)), 0);
            List<Integer> first = new ArrayList<>();
            List<Integer> second = new ArrayList<>();
            probe.ask(asked, first);
            probe.ask(twin, second);
            due(what + ", what it changed", first.equals(second) ? 0 : 1, 0);
        }
    }

    private static int[] refusals(ShipOffice x) {
        int[] all = new int[7];
        for (int number = 1; number <= 6; number++) all[number] = x.count(10 + number);
        return all;
    }

    private static int changed(int[] before, int[] after) {
        int n = 0;
        for (int i = 0; i < before.length; i++) if (before[i] != after[i]) n++;
        return n;
    }

    static void end() {
        System.out.println(wrong == 0 ? tests + " answers are as due" : wrong + " answers are not as due");
        if (wrong != 0) System.exit(1);
    }

    static int feed(ShipOffice x, String text) {
        int all = 0;
        for (int at = 0; at < text.length(); at += 8) {
            int n = Math.min(8, text.length() - at);
            long bytes = 0;
            for (int i = n - 1; i >= 0; i--) bytes = bytes << 8 | text.charAt(at + i);
            all = x.feed(n, bytes);
        }
        return all;
    }

    static int act(ShipOffice x, int purpose, int day, String text) {
        feed(x, text);
        return x.act(purpose, day);
    }

    static void blank(ShipOffice x) {
    }

    /** One man, 20 years old, who signed at 3000 a month on day 0 for a voyage that is open. */
    static void signed(ShipOffice x) {
        x.man(1, 11111, -7300);
        x.voyage(0, 0);
        x.sign(0, 0, 3000, 2, -1);
    }

    /**
     * DAY 30. Voyages, opened on 10: 0 SAILED on 25, 1 open, 2 LOST, 3 ENDED. Agreements, signed on 20, of
     * the man of the same number: 0 ABOARD with all it can have, 1 SIGNED, 2 LOST, 3 OFF, 4 DEAD, 5 LEFT sick,
     * 6 SIGNED with a NOTE that is not SOLD. 4 HAPPENINGS, 1 ACT, 2 bytes, 2 ints (the right ones of voyage 1).
     */
    static void office(ShipOffice x) {
        x.days(10);
        for (int m = 0; m < 7; m++) x.man(m + 1, 11111 * (m + 1), -9000 + 1000 * m);
        for (int v = 0; v < 4; v++) x.voyage(v, v);
        x.days(10);
        int[] wages = {3000, 300, 300, 300, 300, 300, 100};
        int[] voyages = {0, 1, 2, 3, 0, 0, 1};
        for (int m = 0; m < 7; m++) x.sign(m, voyages[m], wages[m], m % 4, -1);
        x.advance(0, 500);
        x.sold(0, 400);
        x.allot(0, 1000);
        x.advance(6, 50);
        x.days(10);
        x.sailed(0, 25);
        x.lost(2, 28);
        x.ended(3, 4);
        x.left(5, 29, 1, 7);
        x.died(4, 30);
        x.fine(0, 30, 40, false);
        x.fine(0, 30, 50, true);
        x.fine(0, 22, 60, false);
        x.rations(0, 10, 3);
        x.miles(7, 5, 100);
        x.miles(5, 0, 200);
        x.ask(3, 0, 100);
        x.ask(3, 2, 70);
        x.ask(4, 1, 50);
        act(x, 1, 35, "s/2");
        feed(x, "w+");
        x.put(110);
        x.put(36);
    }

    static void fullMen(ShipOffice x) {
        office(x);
        for (int m = 7; m < 40; m++) x.man(m, 3 * m, 0);
    }

    /** Ship 4 has the last, ships 5 to 9 have none. */
    static void fullVoyages(ShipOffice x) {
        office(x);
        for (int v = 4; v < 20; v++) {
            x.voyage(4, 4);
            if (v < 19) x.ended(v, 4);
        }
    }

    static void fullAgreements(ShipOffice x) {
        office(x);
        for (int a = 7; a < 60; a++) {
            x.sign(3, 1, 30, 0, -1);
            x.off(a, 0);
        }
    }

    static void fullHappenings(ShipOffice x) {
        office(x);
        for (int h = 4; h < 200; h++) x.heard(0, 30);
    }

    static void fullActs(ShipOffice x) {
        office(x);
        x.act(1, 30);
        for (int i = 1; i < 30; i++) act(x, 1, 35, "s/3");
        feed(x, "w+");
    }

    static void fullFines(ShipOffice x) {
        office(x);
        for (int i = 3; i < 6; i++) x.fine(0, 30, 1, false);
    }

    static void fullTellings(ShipOffice x) {
        office(x);
        for (int i = 1; i < 20; i++) x.rations(0, 1, 1);
    }

    static void fullShort(ShipOffice x) {
        office(x);
        x.rations(0, 989, 1);
    }

    static void fullTape(ShipOffice x) {
        office(x);
        feed(x, "1".repeat(58));
    }

    static void fullRow(ShipOffice x) {
        office(x);
        for (int i = 2; i < 12; i++) x.put(i);
    }

    static void lastDay(ShipOffice x) {
        office(x);
        x.days(2970);
    }

    /** The first eight agreements and the last. */
    private static List<Integer> someAgreements(ShipOffice x) {
        List<Integer> some = new ArrayList<>();
        int all = x.count(4);
        for (int a = 0; a < Math.min(8, all); a++) some.add(a);
        if (all > 8) some.add(all - 1);
        return some;
    }

    private static void questions(ShipOffice x, List<Integer> answers) {
        for (int what = 0; what < 10; what++) answers.add(x.count(what));
        answers.add(x.count(17));
        int now = x.count(0);
        for (int a : someAgreements(x)) {
            for (int what = 0; what < 10; what++) answers.add(x.agreementOf(a, what));
            answers.add(x.state(a, now, now));
            answers.add(x.state(a, now / 2, now));
            answers.add(x.borrowed(a));
        }
        for (int m = 0; m < 8; m++) {
            answers.add(x.group(m));
            answers.add(x.home(m));
        }
    }

    private static void sums(ShipOffice x, List<Integer> answers) {
        int now = x.count(0);
        for (int a : someAgreements(x)) {
            answers.add(x.earns(a, now, now));
            answers.add(x.owed(a, now, now));
            answers.add(x.owed(a, Math.min(25, now), now));
            answers.add(x.stands(a, 0, now));
        }
        for (int i = 1; i < 7; i++) answers.add(x.stands(0, i, now));
        for (int v = 0; v < 8; v++) answers.add(x.aboard(v, now, now));
        for (int hands : new int[] {1, 3, 9, 4}) {
            for (int what = 0; what < 4; what++) answers.add(x.crew(hands, what));
        }
    }

    /** What can only be seen by doing: the row, THE TAPE, MILES, who ASKS for what, what may still be told. */
    private static void deeds(ShipOffice x, List<Integer> answers) {
        int now = x.count(0);
        answers.add(x.check(1, now, now));
        answers.add(x.put(1));
        feed(x, "1");
        answers.add(x.act(1, now));
        answers.add(x.fine(1, now, 9999, false));
        answers.add(x.stands(1, 0, now));
        for (int a = 0; a < 10; a++) {
            for (int b = a + 1; b < 10; b++) answers.add(x.miles(a, b, 1));
        }
        for (int m = 0; m < 8; m++) {
            for (int rank = 0; rank < 4; rank++) answers.add(x.ask(m, rank, 1));
        }
        for (int ship = 0; ship < 10; ship++) answers.add(x.voyage(ship, 0));
        for (int a = 0; a < 8; a++) {
            answers.add(x.advance(a, 7));
            answers.add(x.sold(a, 3));
            answers.add(x.allot(a, 1));
            answers.add(x.read(a, 0));
            answers.add(x.rations(a, 1, 1));
            answers.add(x.fine(a, now, 1, false));
        }
        for (int v = 0; v < 5; v++) {
            answers.add(x.heard(v, now));
            answers.add(x.sailed(v, now));
            answers.add(x.lost(v, now));
            answers.add(x.ended(v, 0));
        }
        for (int a = 0; a < 8; a++) answers.add(x.off(a, 0));
        answers.add(x.man(1, 11112, now));
        answers.add(x.days(1));
    }
}
