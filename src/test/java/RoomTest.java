import com.sun.management.ThreadMXBean;
import java.lang.management.ManagementFactory;

/** All calls of a run live in one room: what an office makes is weighed, in bytes as the machine counts them. */
public final class RoomTest {
    private static final ThreadMXBean BEAN = (ThreadMXBean) ManagementFactory.getThreadMXBean();
    /** Far below the room (some seven million fields of four bytes or more), far above what is needed. */
    private static final long MOST_FOR_A_NEW_ONE = 10_000;
    private static final long MOST_FOR_A_RUN = 100_000;
    private static int wrong;
    private static int calls;

    public static void main(String[] args) {
        ask(filled(new ShipOffice()));
        refused(filled(new ShipOffice()));
        weigh();
        System.out.println(wrong == 0 ? "there is room" : wrong + " are not as they should be");
        if (wrong != 0) System.exit(1);
    }

    /** The first offices, above, have loaded the classes: now only what the calls themselves make counts. */
    private static void weigh() {
        // all is measured ahead of the first text below, which the machine makes as it comes to it
        calls = 0;
        long start = BEAN.getCurrentThreadAllocatedBytes();
        ShipOffice x = new ShipOffice();
        long made = BEAN.getCurrentThreadAllocatedBytes();
        filled(x);
        long full = BEAN.getCurrentThreadAllocatedBytes();
        ask(x);
        long asked = BEAN.getCurrentThreadAllocatedBytes();
        refused(x);
        long end = BEAN.getCurrentThreadAllocatedBytes();
        atMost("a new object", made - start, MOST_FOR_A_NEW_ONE);
        atMost("a full office", full - made, MOST_FOR_A_RUN);
        atMost("calls to fill it", calls, 512);
        atMost("questions", asked - full, 0);
        atMost("refusals", end - asked, 0);
        atLeast("AGREEMENTS", x.count(4), 60);
        atLeast("HAPPENINGS", x.count(6), 200);
        atLeast("ACTS", x.count(7), 30);
    }

    private static void atLeast(String what, long got, long least) {
        if (got < least) {
            wrong++;
            System.out.println(what + ": " + got + ", at least should be " + least);
        }
    }

    private static void atMost(String what, long got, long most) {
        if (got > most) {
            wrong++;
            System.out.println(what + ": " + got + ", at most should be " + most);
        }
    }

    private static void told(int answer) {
        calls++;
        if (answer < 0) {
            wrong++;
            System.out.println("call " + calls + " was refused: " + answer);
        }
    }

    /** As much as 512 calls can tell: 40 men, 60 agreements, 30 acts, 200 happenings, fines and the rest. */
    private static ShipOffice filled(ShipOffice x) {
        for (int m = 0; m < 40; m++) {
            told(x.man(m, 100 * m, -9000));
            told(x.ask(m, m % 4, 10 + m));
        }
        for (int ship = 0; ship < 10; ship++) told(x.voyage(ship, ship));
        for (int a = 0; a < 60; a++) {
            if (a >= 40) told(x.off(a - 40, 0));
            told(x.sign(a % 40, a % 10, 300, 1, a >= 40 ? a - 40 : -1));
        }
        for (int i = 0; i < 30; i++) {
            told(x.feed(7, 0x6E2B6C2B642B31L)); // 1+d+l+n
            told(x.act(i % 5, i));
        }
        told(x.sailed(0, 0));
        for (int i = 0; i < 6; i++) told(x.fine(50, 0, 5, true));
        for (int i = 0; i < 20; i++) told(x.rations(50, 1, 1));
        told(x.days(60));
        for (int i = 1; i < 160; i++) told(x.heard(0, i % 60));
        for (int i = 0; i < 20; i++) told(x.left(50, 2 * i, 1, 3));
        for (int i = 0; i < 20; i++) told(x.back(50, 2 * i + 1));
        for (int i = 0; i < 12; i++) told(x.put(i));
        return x;
    }

    private static void ask(ShipOffice x) {
        for (int a = 0; a < 60; a++) {
            x.state(a, 50, 60);
            x.earns(a, 60, 60);
            x.owed(a, 60, 60);
            x.stands(a, 0, 60);
            x.agreementOf(a, a % 10);
            x.borrowed(a);
            x.home(a % 40);
            x.group(a % 40);
            x.aboard(a % 10, 60, 60);
            x.crew(a, a % 9);
            x.count(a % 18);
        }
        x.check(0, 60, 60);
    }

    private static void refused(ShipOffice x) {
        x.man(0, 0, 0);
        x.sign(39, 9, 300, 1, -1);
        x.heard(0, 60);
        x.left(50, 60, 1, 3);
        x.died(50, 60);
        x.back(50, 60);
        x.feed(9, 0);
        x.act(0, 60);
        x.fine(50, 60, 5, false);
        x.rations(50, 1, 1);
        x.voyage(0, 0);
        x.allot(50, 9999);
        x.advance(50, 1);
        x.sold(50, 1);
        x.days(3000);
    }
}
