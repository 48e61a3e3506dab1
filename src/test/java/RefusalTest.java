/**
 * Promise by promise, each refusal of each call with the last number that is let and the first that is
 * not, the empty and the full, and which of two refusals comes first; a refused call changes nothing
 * but the count of its refusals.
 */
public final class RefusalTest {
    private static final int NOBODY = Bounds.NOBODY;
    private static final int OTHER = Bounds.OTHER;
    private static final int STATE = Bounds.STATE;
    private static final int BELOW = Bounds.BELOW;
    private static final int ROOM = Bounds.ROOM;
    private static final int LOW = Bounds.LOW;
    private static final int HIGH = Bounds.HIGH;
    /** Numbers that no man, voyage and AGREEMENT of the scene bears. */
    private static final int[] NO_MAN = {LOW, -2, -1, 7, 40, HIGH};
    private static final int[] NO_VOYAGE = {LOW, -2, -1, 4, 20, HIGH};
    private static final int[] NO_AGREEMENT = {LOW, -2, -1, 7, 60, HIGH};
    private static final int[] NO_PORT = {LOW, -1, 10, HIGH};

    /** A call that asks for a DAY j as known on K. */
    private interface Asking {
        int on(ShipOffice x, int number, int j, int k);
    }

    /** A call that tells something as of a DAY. */
    private interface Telling {
        int on(ShipOffice x, int number, int day);
    }

    public static void main(String[] args) {
        scene();
        newObject();
        days();
        miles();
        man();
        voyage();
        ended();
        sailed();
        heard();
        lost();
        left();
        died();
        back();
        feed();
        act();
        signNumbers();
        signStates();
        off();
        asked();
        advance();
        sold();
        allot();
        fine();
        read();
        stands();
        rations();
        agreementOf();
        group();
        borrowed();
        home();
        ask();
        crew();
        put();
        check();
        count();
        Bounds.end();
    }

    private static void about(String what) {
        Bounds.about = what;
    }

    private static void is(String what, Bounds.Call call, int want) {
        Bounds.is(what, Bounds::office, call, want);
    }

    private static void is(String what, Bounds.Scene scene, Bounds.Call call, int want) {
        Bounds.is(what, scene, call, want);
    }

    private static void no(String what, Bounds.Call call, int number) {
        Bounds.no(what, Bounds::office, call, number);
    }

    private static void no(String what, Bounds.Scene scene, Bounds.Call call, int number) {
        Bounds.no(what, scene, call, number);
    }

    /** The scenes are what their words say: else the tests on them say little. */
    private static void scene() {
        about("the scene");
        int[] counts = {30, 7, 4, 3, 7, 4, 4, 1, 2, 2, -9, 0, 0, 0, 0, 0, 0, 2};
        for (int i = 0; i < counts.length; i++) {
            int what = i;
            is("count " + what, x -> x.count(what), counts[what]);
        }
        int[] states = {1, 0, 4, 5, 4, 3, 0};
        for (int i = 0; i < states.length; i++) {
            int a = i;
            is("state of " + a, x -> x.state(a, 30, 30), states[a]);
        }
        is("the men are full", Bounds::fullMen, x -> x.count(1), 40);
        is("the voyages are full", Bounds::fullVoyages, x -> x.count(2), 20);
        is("the agreements are full", Bounds::fullAgreements, x -> x.count(4), 60);
        is("the happenings are full", Bounds::fullHappenings, x -> x.count(6), 200);
        is("the acts are full", Bounds::fullActs, x -> x.count(7), 30);
        is("the tape is full", Bounds::fullTape, x -> x.count(8), 60);
        is("the row is full", Bounds::fullRow, x -> x.count(9), 12);
        is("the last day", Bounds::lastDay, x -> x.count(0), 3000);
    }

    private static void newObject() {
        about("promise 1");
        for (int i = 0; i < 10; i++) {
            int what = i;
            is("nothing is told, count " + what, Bounds::blank, x -> x.count(what), 0);
        }
        for (int i = 11; i < 18; i++) {
            int what = i;
            is("nothing is told, count " + what, Bounds::blank, x -> x.count(what), 0);
        }
        no("no man", Bounds::blank, x -> x.group(0), NOBODY);
        no("no voyage", Bounds::blank, x -> x.aboard(0, 0, 0), NOBODY);
        no("no agreement", Bounds::blank, x -> x.borrowed(0), NOBODY);
        is("no miles", Bounds::blank, x -> x.miles(0, 9, 0), 0);
        is("nobody asks", Bounds::blank, x -> x.crew(1, 0), -9);
        is("an empty row's first", Bounds::blank, x -> x.put(5), 1);
    }

    private static void days() {
        about("promise 2");
        for (int n : new int[] {LOW, -1, 0}) no("below 1", x -> x.days(n), BELOW);
        is("1", x -> x.days(1), 31);
        is("up to 3000", x -> x.days(2970), 3000);
        for (int n : new int[] {2971, 3000, HIGH}) no("above 3000", x -> x.days(n), ROOM);
        is("3000 at once", Bounds::blank, x -> x.days(3000), 3000);
        no("3001 at once", Bounds::blank, x -> x.days(3001), ROOM);
        no("1 behind 3000", Bounds::lastDay, x -> x.days(1), ROOM);
        no("0 behind 3000", Bounds::lastDay, x -> x.days(0), BELOW);
    }

    private static void miles() {
        about("promise 3");
        for (int port : NO_PORT) {
            no("no such port", x -> x.miles(port, 0, 1), NOBODY);
            no("no such port", x -> x.miles(0, port, 1), NOBODY);
            no("no such port, ahead of -4", x -> x.miles(port, 0, -1), NOBODY);
            no("no such port, ahead of -6", x -> x.miles(0, port, 10000), NOBODY);
        }
        for (int p = 0; p < 10; p++) {
            int port = p;
            no("one port", x -> x.miles(port, port, 1), NOBODY);
        }
        no("one port, ahead of -4", x -> x.miles(5, 5, -1), NOBODY);
        no("one port, ahead of -6", x -> x.miles(5, 5, 10000), NOBODY);
        for (int v : new int[] {-1, LOW}) no("below 0", x -> x.miles(7, 5, v), BELOW);
        for (int v : new int[] {10000, HIGH}) no("above 9999", x -> x.miles(5, 7, v), ROOM);
        is("0: none any more", x -> x.miles(7, 5, 0), 100);
        is("none of a pair that had none", x -> x.miles(0, 9, 0), 0);
        is("1, port 0 and 9", x -> x.miles(0, 9, 1) * 10 + x.miles(9, 0, 9999), 1);
        is("9999, both ways", x -> x.miles(9, 0, 9999) * 10 + x.miles(0, 9, 1), 9999);
        is("0 told is none", x -> x.miles(7, 5, 0) * 0 + x.miles(5, 7, 4), 0);
    }

    private static void man() {
        about("promise 4");
        for (int below : new int[] {-1, LOW}) {
            no("name below 0", x -> x.man(below, 0, 0), BELOW);
            no("marks below 0", x -> x.man(0, below, 0), BELOW);
            no("below, ahead of above", x -> x.man(below, 100000, 0), BELOW);
            no("below, ahead of above", x -> x.man(10000, below, 31), BELOW);
        }
        for (int born : new int[] {-30001, LOW}) {
            no("born below -30000", x -> x.man(0, 0, born), BELOW);
            no("below, ahead of above", x -> x.man(10000, 100000, born), BELOW);
        }
        for (int name : new int[] {10000, HIGH}) no("name above", x -> x.man(name, 0, 0), ROOM);
        for (int marks : new int[] {100000, HIGH}) no("marks above", x -> x.man(0, marks, 0), ROOM);
        for (int born : new int[] {31, HIGH}) no("born behind now", x -> x.man(0, 0, born), ROOM);
        is("the least", x -> x.man(0, 0, -30000), 7);
        is("the greatest", x -> x.man(9999, 99999, 30), 7);
        is("the 40th", x -> {
            for (int m = 7; m < 39; m++) x.man(m, m, 0);
            return x.man(0, 0, 0);
        }, 39);
        no("the 41st", Bounds::fullMen, x -> x.man(0, 0, 0), ROOM);
        no("below, ahead of 40", Bounds::fullMen, x -> x.man(-1, 0, 0), BELOW);
        no("below, ahead of 40", Bounds::fullMen, x -> x.man(0, 0, -30001), BELOW);
    }

    private static void voyage() {
        about("promise 5");
        for (int none : NO_PORT) {
            no("no such ship", x -> x.voyage(none, 0), NOBODY);
            no("no such port", x -> x.voyage(9, none), NOBODY);
            no("no such port, ahead of -3", x -> x.voyage(0, none), NOBODY);
            no("no such port, ahead of -6", Bounds::fullVoyages, x -> x.voyage(9, none), NOBODY);
        }
        for (int s = 0; s < 3; s++) {
            int ship = s;
            no("it has one that SAILED, is open, is LOST", x -> x.voyage(ship, 0), STATE);
        }
        is("its last has ENDED", x -> x.voyage(3, 0), 4);
        is("the least ship and port", Bounds::blank, x -> x.voyage(0, 0), 0);
        is("the greatest ship and port", x -> x.voyage(9, 9), 4);
        no("it has one, told twice", x -> x.voyage(1, 1), STATE);
        is("the 20th", x -> {
            for (int v = 4; v < 19; v++) {
                x.voyage(4, 0);
                x.ended(v, 0);
            }
            return x.voyage(4, 0);
        }, 19);
        no("the 21st", Bounds::fullVoyages, x -> x.voyage(5, 0), ROOM);
        no("it has one, ahead of 20", Bounds::fullVoyages, x -> x.voyage(4, 0), STATE);
    }

    private static void ended() {
        about("promise 6");
        for (int voyage : NO_VOYAGE) no("no such voyage", x -> x.ended(voyage, 0), NOBODY);
        for (int port : NO_PORT) {
            no("no such port", x -> x.ended(1, port), NOBODY);
            no("no such port, ahead of -3", x -> x.ended(3, port), NOBODY);
        }
        no("it was", x -> x.ended(3, 4), STATE);
        no("it is LOST", x -> x.ended(2, 4), STATE);
        is("two are OFF, the dead one is not", x -> x.ended(0, 0), 2);
        is("port 9", x -> x.ended(1, 9), 2);
        is("one is OFF before", x -> x.off(1, 0) * 0 + x.ended(1, 9), 1);
        is("none is OFF", x -> x.voyage(5, 0) * 0 + x.ended(4, 0), 0);
    }

    /** What SAILED, HEARD and LOST have in common, told of voyage 1; 5 is the number of the next HAPPENING. */
    private static void voyageTold(Telling t) {
        for (int voyage : NO_VOYAGE) {
            no("no such voyage", x -> t.on(x, voyage, 30), NOBODY);
            no("no such voyage, ahead of -4", x -> t.on(x, voyage, 9), NOBODY);
            no("no such voyage, ahead of -6", Bounds::fullHappenings, x -> t.on(x, voyage, 31), NOBODY);
        }
        no("it has ENDED", x -> t.on(x, 3, 30), STATE);
        no("it has ENDED, ahead of -4", x -> t.on(x, 3, 9), STATE);
        no("it has ENDED, ahead of -6", x -> t.on(x, 3, 31), STATE);
        no("it has ENDED, ahead of 200", Bounds::fullHappenings, x -> t.on(x, 3, 30), STATE);
        for (int day : new int[] {LOW, -1, 0, 9}) no("ahead of its opening", x -> t.on(x, 1, day), BELOW);
        no("ahead of its opening, ahead of 200", Bounds::fullHappenings, x -> t.on(x, 1, 9), BELOW);
        for (int day : new int[] {31, 3000, HIGH}) no("behind now", x -> t.on(x, 1, day), ROOM);
        is("the day of its opening", x -> t.on(x, 1, 10), 5);
        is("now", x -> t.on(x, 1, 30), 5);
        no("201", Bounds::fullHappenings, x -> t.on(x, 1, 30), ROOM);
        is("the 200th", x -> {
            for (int h = 5; h < 200; h++) x.heard(0, 30);
            return t.on(x, 1, 30);
        }, 200);
    }

    private static void sailed() {
        about("promise 7");
        voyageTold(ShipOffice::sailed);
        no("it was told", x -> x.sailed(0, 25), STATE);
        no("it was told, ahead of -4", x -> x.sailed(0, 9), STATE);
        no("it was told, ahead of -6", x -> x.sailed(0, 31), STATE);
        no("it was told, ahead of 200", Bounds::fullHappenings, x -> x.sailed(0, 30), STATE);
        is("a LOST one that was not told", x -> x.sailed(2, 30), 5);
    }

    private static void heard() {
        about("promise 8");
        voyageTold(ShipOffice::heard);
        is("again", x -> x.heard(0, 30) * 0 + x.heard(0, 30), 6);
        is("ahead of SAILED", x -> x.heard(0, 24), 5);
        is("a LOST one", x -> x.heard(2, 30), 5);
    }

    private static void lost() {
        about("promise 9");
        voyageTold(ShipOffice::lost);
        no("it was told", x -> x.lost(2, 28), STATE);
        no("it was told, ahead of -4", x -> x.lost(2, 9), STATE);
        no("it was told, ahead of -6", x -> x.lost(2, 31), STATE);
        no("it was told, ahead of 200", Bounds::fullHappenings, x -> x.lost(2, 30), STATE);
        is("one that SAILED, ahead of that", x -> x.lost(0, 24), 5);
    }

    /** What LEFT, DIED and BACK have in common. */
    private static void manTold(Telling t) {
        for (int agreement : NO_AGREEMENT) {
            no("no such agreement", x -> t.on(x, agreement, 30), NOBODY);
            no("no such agreement, ahead of -4", x -> t.on(x, agreement, 19), NOBODY);
            no("no such agreement, ahead of -6", Bounds::fullHappenings, x -> t.on(x, agreement, 31), NOBODY);
        }
        no("it is OFF", x -> t.on(x, 3, 30), STATE);
        no("it is OFF, ahead of -4", x -> t.on(x, 3, 19), STATE);
        no("it is OFF, ahead of -6", x -> t.on(x, 3, 31), STATE);
        no("it is OFF, ahead of 200", Bounds::fullHappenings, x -> t.on(x, 3, 30), STATE);
        for (int day : new int[] {LOW, -1, 0, 19}) no("ahead of the signing", x -> t.on(x, 1, day), BELOW);
        no("ahead of the signing, ahead of 200", Bounds::fullHappenings, x -> t.on(x, 1, 19), BELOW);
        for (int day : new int[] {31, 3000, HIGH}) no("behind now", x -> t.on(x, 1, day), ROOM);
        is("the day of the signing", x -> t.on(x, 1, 20), 5);
        is("now", x -> t.on(x, 1, 30), 5);
        is("a dead man", x -> t.on(x, 4, 30), 5);
        is("a man of a LOST voyage", x -> t.on(x, 2, 30), 5);
        is("a man who LEFT", x -> t.on(x, 5, 20), 5);
        no("201", Bounds::fullHappenings, x -> t.on(x, 1, 30), ROOM);
        is("the 200th", x -> {
            for (int h = 5; h < 200; h++) x.heard(0, 30);
            return t.on(x, 1, 30);
        }, 200);
    }

    private static void left() {
        about("promise 10");
        manTold((x, a, day) -> x.left(a, day, 0, 0));
        for (int port : NO_PORT) {
            no("no such port", x -> x.left(1, 30, 0, port), NOBODY);
            no("no such port, ahead of -2", x -> x.left(1, 30, 3, port), NOBODY);
            no("no such port, ahead of -3", x -> x.left(3, 30, 0, port), NOBODY);
        }
        for (int way : new int[] {LOW, -1, 3, HIGH}) {
            no("no such way", x -> x.left(1, 30, way, 0), OTHER);
            no("no such way, ahead of -3", x -> x.left(3, 30, way, 0), OTHER);
            no("no such way, ahead of -4", x -> x.left(1, 19, way, 0), OTHER);
            no("no such way, ahead of -6", x -> x.left(1, 31, way, 0), OTHER);
            no("no such agreement, ahead of -2", x -> x.left(7, 30, way, 0), NOBODY);
        }
        is("the least way and port", x -> x.left(1, 30, 0, 0), 5);
        is("the greatest way and port", x -> x.left(1, 30, 2, 9), 5);
    }

    private static void died() {
        about("promise 11");
        manTold(ShipOffice::died);
        is("once more", x -> x.died(1, 30) * 0 + x.died(1, 29), 6);
    }

    private static void back() {
        about("promise 12");
        manTold(ShipOffice::back);
        is("one who never left", x -> x.back(6, 30), 5);
    }

    private static void feed() {
        about("promise 13");
        for (int n : new int[] {LOW, -1, 0}) {
            no("below 1", x -> x.feed(n, 49), BELOW);
            no("below 1, ahead of 60", Bounds::fullTape, x -> x.feed(n, 49), BELOW);
        }
        for (int n : new int[] {9, 60, HIGH}) no("above 8", x -> x.feed(n, 49), ROOM);
        is("1", x -> x.feed(1, -1L), 3);
        is("8", x -> x.feed(8, -1L), 10);
        for (int n = 1; n <= 8; n++) {
            int more = n;
            Bounds.Scene room = x -> {
                Bounds.office(x);
                Bounds.feed(x, "1".repeat(58 - more));
            };
            is("just 60", room, x -> x.feed(more, 0), 60);
            if (n < 8) no("61", room, x -> x.feed(more + 1, 0), ROOM);
            no("full", Bounds::fullTape, x -> x.feed(more, 0), ROOM);
        }
        is("the lowest first, no more than n", x -> {
            x.act(0, 30);
            x.feed(2, 0x7A31L << 16 | 0x2B73L);
            x.feed(1, 0x7A31L);
            x.act(1, 30);
            return x.stands(0, 0, 30);
        }, 40);
        is("a byte above 127", x -> x.act(0, 30) * 0 + x.feed(1, 128 + 49) * 0 + x.act(0, 30), -20);
    }

    private static void act() {
        about("promise 14");
        for (int purpose : new int[] {LOW, -1, 5, HIGH}) {
            no("no such purpose", x -> x.act(purpose, 30), OTHER);
            no("no such purpose, ahead of -4", x -> x.act(purpose, 29), OTHER);
            no("no such purpose, ahead of -6", x -> x.act(purpose, 3001), OTHER);
            no("no such purpose, ahead of 30", Bounds::fullActs, x -> x.act(purpose, 30), OTHER);
        }
        for (int day : new int[] {LOW, -1, 0, 29}) {
            no("ahead of now", x -> x.act(0, day), BELOW);
            no("ahead of now, ahead of 30", Bounds::fullActs, x -> x.act(0, day), BELOW);
        }
        for (int day : new int[] {3001, HIGH}) no("above 3000", x -> x.act(0, day), ROOM);
        no("the 31st, ahead of its FAULT", Bounds::fullActs, x -> x.act(0, 30), ROOM);
        no("the 31st", x -> {
            Bounds.fullActs(x);
            x.feed(1, '1');
        }, x -> x.act(0, 30), ROOM);
        Bounds.Scene whole = x -> {
            Bounds.office(x);
            x.feed(1, '1');
        };
        is("the least purpose, now", whole, x -> x.act(0, 30), 2);
        is("the greatest purpose and day", whole, x -> x.act(4, 3000), 2);
        is("the last day is let on it", x -> {
            Bounds.lastDay(x);
            x.feed(1, '1');
        }, x -> x.act(4, 3000), 2);
        is("THE TAPE has none then", whole, x -> x.act(0, 30) * 0 + x.count(8), 0);
        is("the 30th", whole, x -> {
            for (int i = 2; i < 30; i++) {
                x.act(1, 3000);
                x.feed(1, 's');
            }
            return x.act(1, 30);
        }, 30);
        is("a FAULT at the end", x -> x.act(0, 30), -22);
        is("a FAULT at 0 is not counted", x -> x.act(0, 30) * 0 + x.act(0, 30) * 0 + x.count(7), 1);
        is("a FAULT at 0 is not in force", x -> {
            x.act(1, 30);
            x.act(1, 30);
            Bounds.act(x, 1, 30, ")");
            return x.stands(0, 0, 30);
        }, 40);
        is("a FAULT is not counted", x -> x.act(0, 30) * 0 + x.count(7), 1);
        is("THE TAPE has none behind a FAULT, too", x -> x.act(0, 30) * 0 + x.count(8), 0);
        is("an empty TAPE lacks all", x -> x.act(0, 30) * 0 + x.act(0, 30), -20);
        is("a FAULT at the end of 60", Bounds::blank, x -> Bounds.act(x, 0, 0, "1+".repeat(30)), -80);
        is("a FAULT at the 60th", Bounds::blank, x -> Bounds.act(x, 0, 0, "1+".repeat(29) + "1)"), -79);
        is("60 bytes", Bounds::blank, x -> Bounds.act(x, 0, 0, "1+".repeat(29) + "11"), 1);
    }

    private static void signNumbers() {
        about("promise 15");
        for (int man : NO_MAN) {
            no("no such man", x -> x.sign(man, 1, 1, 0, -1), NOBODY);
            no("no such man, ahead of -4", x -> x.sign(man, 1, 0, -1, -1), NOBODY);
        }
        for (int voyage : NO_VOYAGE) {
            no("no such voyage", x -> x.sign(3, voyage, 1, 0, -1), NOBODY);
            no("no such voyage, ahead of -6", x -> x.sign(3, voyage, 10000, 4, -1), NOBODY);
        }
        for (int paper : new int[] {LOW, -2, 7, 60, HIGH}) {
            no("no such paper", x -> x.sign(3, 1, 1, 0, paper), NOBODY);
            no("no such paper, ahead of -4", x -> x.sign(3, 1, 0, 0, paper), NOBODY);
            no("no such paper, ahead of -6", x -> x.sign(3, 1, 10000, 0, paper), NOBODY);
            no("no such paper, ahead of -3", x -> x.sign(3, 0, 1, 0, paper), NOBODY);
        }
        for (int below : new int[] {LOW, -1}) {
            no("wage below", x -> x.sign(3, 1, below, 0, -1), BELOW);
            no("rank below", x -> x.sign(3, 1, 1, below, -1), BELOW);
            no("rank below, ahead of -6", x -> x.sign(3, 1, 10000, below, -1), BELOW);
            no("rank below, ahead of -3", x -> x.sign(3, 0, 1, below, -1), BELOW);
            no("below, ahead of 60", Bounds::fullAgreements, x -> x.sign(3, 1, 1, below, -1), BELOW);
        }
        no("wage 0", x -> x.sign(3, 1, 0, 0, -1), BELOW);
        no("wage 0, ahead of -6", x -> x.sign(3, 1, 0, 4, -1), BELOW);
        for (int wage : new int[] {10000, HIGH}) {
            no("wage above", x -> x.sign(3, 1, wage, 0, -1), ROOM);
            no("wage above, ahead of -3", x -> x.sign(0, 0, wage, 0, 0), ROOM);
        }
        for (int rank : new int[] {4, HIGH}) {
            no("rank above", x -> x.sign(3, 1, 1, rank, -1), ROOM);
            no("rank above, ahead of -3", x -> x.sign(0, 0, 1, rank, 0), ROOM);
        }
        is("the least", x -> x.sign(3, 1, 1, 0, -1), 7);
        is("the greatest", x -> x.sign(3, 1, 9999, 3, -1), 7);
        is("the 60th", x -> {
            for (int a = 7; a < 59; a++) {
                x.sign(3, 1, 30, 0, -1);
                x.off(a, 0);
            }
            return x.sign(3, 1, 30, 0, 58);
        }, 59);
        no("the 61st", Bounds::fullAgreements, x -> x.sign(3, 1, 1, 0, -1), ROOM);
        no("60, ahead of -3", Bounds::fullAgreements, x -> x.sign(0, 0, 1, 0, 0), ROOM);
        no("no such man, ahead of 60", Bounds::fullAgreements, x -> x.sign(7, 1, 1, 0, -1), NOBODY);
    }

    private static void signStates() {
        about("promise 15");
        no("the voyage SAILED", x -> x.sign(3, 0, 1, 0, -1), STATE);
        no("the voyage is LOST", x -> x.sign(3, 2, 1, 0, -1), STATE);
        no("the voyage has ENDED", x -> x.sign(3, 3, 1, 0, -1), STATE);
        no("the man is ABOARD", x -> x.sign(0, 1, 1, 0, -1), STATE);
        no("the man is SIGNED", x -> x.sign(1, 1, 1, 0, -1), STATE);
        no("the man LEFT", x -> x.sign(5, 1, 1, 0, -1), STATE);
        is("the man is OFF", x -> x.sign(3, 1, 1, 0, -1), 7);
        is("the man DIED, as known", x -> x.sign(4, 1, 1, 0, -1), 7);
        is("his voyage is LOST", x -> x.sign(2, 1, 1, 0, -1), 7);
        for (int p : new int[] {0, 1, 2, 4, 5, 6}) {
            int paper = p;
            no("the paper is not OFF", x -> x.sign(3, 1, 1, 0, paper), STATE);
        }
        is("a paper that is OFF", x -> x.sign(3, 1, 1, 0, 3), 7);
        is("another man's paper", x -> x.sign(4, 1, 1, 0, 3), 7);
        for (String text : new String[] {"0", "0-1", "s", "d+n+l+x", "(w>9)", "r", "(a>16)*2"}) {
            Bounds.Scene law = x -> {
                Bounds.office(x);
                x.act(0, 30);
                Bounds.act(x, 0, 30, text);
            };
            no("SIGN is 0 or below: " + text, law, x -> x.sign(3, 1, 9, 0, -1), STATE);
        }
        // man 3 was born on -6000: 16 years on DAY 30
        for (String text : new String[] {"1", "99999*99999", "(w=9)", "r", "(a=16)", "(s+d+n+l+x=0)"}) {
            Bounds.Scene law = x -> {
                Bounds.office(x);
                x.act(0, 30);
                Bounds.act(x, 0, 30, text);
            };
            is("SIGN is above 0: " + text, law, x -> x.sign(3, 1, 9, 1, -1), 7);
        }
        Bounds.Scene later = x -> {
            Bounds.office(x);
            x.act(0, 30);
            Bounds.act(x, 0, 31, "0");
        };
        is("SIGN from tomorrow on", later, x -> x.sign(3, 1, 9, 1, -1), 7);
        no("SIGN from today on", x -> {
            later.set(x);
            x.days(1);
        }, x -> x.sign(3, 1, 9, 1, -1), STATE);
    }

    private static void off() {
        about("promise 16");
        for (int agreement : NO_AGREEMENT) no("no such agreement", x -> x.off(agreement, 0), NOBODY);
        for (int port : NO_PORT) {
            no("no such port", x -> x.off(0, port), NOBODY);
            no("no such port, ahead of -3", x -> x.off(3, port), NOBODY);
        }
        no("it is OFF", x -> x.off(3, 0), STATE);
        no("he DIED", x -> x.off(4, 0), STATE);
        no("its voyage is LOST", x -> x.off(2, 0), STATE);
        no("twice", x -> {
            Bounds.office(x);
            x.off(0, 0);
        }, x -> x.off(0, 0), STATE);
        is("ABOARD, port 0", x -> x.off(0, 0), 1);
        is("LEFT, port 9", x -> x.off(5, 9), 1);
        is("SIGNED", x -> x.off(6, 9), 1);
    }

    /** What STATE, earns, OWED, ABOARD and the account have in common. */
    private static void askedOn(Asking call, int[] nobody, boolean isSum) {
        for (int number : nobody) {
            noAsked("no such one", x -> call.on(x, number, 30, 30), NOBODY, isSum);
            noAsked("no such one, ahead of -4", x -> call.on(x, number, -1, -1), NOBODY, isSum);
            noAsked("no such one, ahead of -3", x -> call.on(x, number, 30, 31), NOBODY, isSum);
        }
        for (int below : new int[] {LOW, -1}) {
            noAsked("j below 0", x -> call.on(x, 0, below, 30), BELOW, isSum);
            noAsked("K below 0", x -> call.on(x, 0, 0, below), BELOW, isSum);
            noAsked("both below 0", x -> call.on(x, 0, below, below), BELOW, isSum);
            noAsked("j below 0, ahead of K behind now", x -> call.on(x, 0, below, 31), BELOW, isSum);
            noAsked("K below 0, ahead of j behind K", x -> call.on(x, 0, 30, below), BELOW, isSum);
        }
        noAsked("j behind K", x -> call.on(x, 0, 30, 29), STATE, isSum);
        noAsked("j behind K 0", x -> call.on(x, 0, 1, 0), STATE, isSum);
        noAsked("K behind now", x -> call.on(x, 0, 0, 31), STATE, isSum);
        noAsked("both behind now", x -> call.on(x, 0, 31, 31), STATE, isSum);
        noAsked("the greatest", x -> call.on(x, 0, HIGH, HIGH), STATE, isSum);
    }

    private static void noAsked(String what, Bounds.Call call, int number, boolean isSum) {
        if (isSum) {
            Bounds.noSum(what, Bounds::office, call, number);
        } else {
            no(what, call, number);
        }
    }

    private static void asked() {
        about("promise 17");
        askedOn(ShipOffice::state, NO_AGREEMENT, false);
        is("the least days", x -> x.state(0, 0, 0), -9);
        is("ahead of the signing, as known now", x -> x.state(0, 19, 30), -9);
        is("j on K on now", x -> x.state(0, 30, 30), 1);
        about("promise 18");
        askedOn(ShipOffice::earns, NO_AGREEMENT, false);
        is("the least days", x -> x.earns(0, 0, 0), 0);
        is("ahead of the signing", x -> x.earns(0, 19, 30), 0);
        is("the signing", x -> x.earns(0, 20, 30), 1);
        is("now", x -> x.earns(0, 30, 30), 11);
        about("promise 26");
        askedOn(ShipOffice::owed, NO_AGREEMENT, true);
        is("the least days", x -> x.owed(0, 0, 0), 0);
        is("0 ahead of the signing, SHORT or not", x -> x.owed(0, 19, 30), 0);
        is("the signing", x -> x.owed(0, 20, 30), 100 + 30);
        is("below 0", x -> x.owed(0, 30, 30), 1100 - 500 - 40 - 50 - 60 + 30);
        about("promise 28");
        askedOn(ShipOffice::aboard, NO_VOYAGE, false);
        is("the least days", x -> x.aboard(0, 0, 0), 0);
        is("ahead of SAILED", x -> x.aboard(0, 24, 30), 0);
        is("all three", x -> x.aboard(0, 25, 30), 3);
        is("now", x -> x.aboard(0, 30, 30), 1);
        is("none signed", x -> x.voyage(5, 0) * 0 + x.aboard(4, 30, 30), 0);
        is("the 20th voyage", Bounds::fullVoyages, x -> x.aboard(19, 30, 30), 0);
        no("the 21st voyage", Bounds::fullVoyages, x -> x.aboard(20, 30, 30), NOBODY);
    }

    private static void advance() {
        about("promise 19");
        for (int agreement : NO_AGREEMENT) {
            no("no such agreement", x -> x.advance(agreement, 1), NOBODY);
            no("no such agreement, ahead of -4", x -> x.advance(agreement, 0), NOBODY);
        }
        for (int a : new int[] {0, 2, 3, 4, 5, 6}) {
            no("there is one, or he is not SIGNED", x -> x.advance(a, 1), STATE);
            no("there is one, or he is not SIGNED, ahead of -4", x -> x.advance(a, 0), STATE);
            no("there is one, or he is not SIGNED, ahead of -6", x -> x.advance(a, 100000), STATE);
        }
        no("ABOARD", x -> {
            Bounds.office(x);
            x.sailed(1, 30);
        }, x -> x.advance(1, 1), STATE);
        no("NOT KNOWN", x -> {
            Bounds.office(x);
            x.sailed(1, 30);
            x.days(91);
        }, x -> x.advance(1, 1), STATE);
        is("LEFT and BACK", x -> x.left(1, 30, 0, 0) * 0 + x.back(1, 30) * 0 + x.advance(1, 1), 1);
        for (int sum : new int[] {LOW, -1, 0}) no("below 1", x -> x.advance(1, sum), BELOW);
        for (int sum : new int[] {100000, HIGH}) no("above 99999", x -> x.advance(1, sum), ROOM);
        is("1", x -> x.advance(1, 1) * 0 + x.agreementOf(1, 6), 1);
        is("99999", x -> x.advance(1, 99999) * 0 + x.agreementOf(1, 6), 99999);
    }

    private static void sold() {
        about("promise 20");
        for (int agreement : NO_AGREEMENT) {
            no("no such agreement", x -> x.sold(agreement, 1), NOBODY);
            no("no such agreement, ahead of -4", x -> x.sold(agreement, 0), NOBODY);
        }
        for (int a : new int[] {0, 1, 2, 3, 4, 5}) {
            no("there is none, or it was", x -> x.sold(a, 1), STATE);
            no("there is none, or it was, ahead of -4", x -> x.sold(a, 0), STATE);
            no("there is none, or it was, ahead of -6", x -> x.sold(a, 99999), STATE);
        }
        for (int given : new int[] {LOW, -1, 0}) no("0 or below", x -> x.sold(6, given), BELOW);
        for (int given : new int[] {50, 51, HIGH}) no("not below the NOTE", x -> x.sold(6, given), ROOM);
        is("1", x -> x.sold(6, 1), 49);
        is("1 less", x -> x.sold(6, 49), 1);
        is("when it is OFF", x -> x.off(6, 0) * 0 + x.sold(6, 49), 1);
        no("a NOTE of 1 for 1", x -> {
            Bounds.office(x);
            x.advance(1, 1);
        }, x -> x.sold(1, 1), ROOM);
    }

    private static void allot() {
        about("promise 21");
        for (int agreement : NO_AGREEMENT) {
            no("no such agreement", x -> x.allot(agreement, 1), NOBODY);
            no("no such agreement, ahead of -4", x -> x.allot(agreement, 0), NOBODY);
        }
        for (int a : new int[] {0, 2, 3, 4}) {
            no("there is one, or it does not go on", x -> x.allot(a, 1), STATE);
            no("there is one, or it does not go on, ahead of -4", x -> x.allot(a, 0), STATE);
            no("there is one, or it does not go on, ahead of -6", x -> x.allot(a, 10000), STATE);
        }
        for (int sum : new int[] {LOW, -1, 0}) no("below 1", x -> x.allot(1, sum), BELOW);
        for (int sum : new int[] {151, 10000, HIGH}) no("above what ALLOT lets", x -> x.allot(1, sum), ROOM);
        is("all that ALLOT lets", x -> x.allot(1, 150), 1);
        is("1", x -> x.allot(1, 1), 1);
        is("one who LEFT", x -> x.allot(5, 150), 1);
        Bounds.Scene free = x -> {
            Bounds.office(x);
            x.act(0, 30);
            Bounds.act(x, 3, 30, "99999");
        };
        is("9999", free, x -> x.allot(1, 9999), 1);
        no("10000", free, x -> x.allot(1, 10000), ROOM);
        Bounds.Scene none = x -> {
            Bounds.office(x);
            x.act(0, 30);
            Bounds.act(x, 3, 30, "0-1");
        };
        no("ALLOT below 0", none, x -> x.allot(1, 1), ROOM);
        for (int w = 1; w <= 4; w++) {
            int wage = w;
            Bounds.Scene low = x -> {
                Bounds.office(x);
                x.sign(3, 1, wage, 0, -1);
            };
            no("half of " + wage + ", cut, and 1", low, x -> x.allot(7, wage / 2 + 1), ROOM);
            if (w > 1) is("half of " + wage + ", cut", low, x -> x.allot(7, wage / 2), 1);
        }
    }

    private static void fine() {
        about("promise 22");
        for (int agreement : NO_AGREEMENT) {
            no("no such agreement", x -> x.fine(agreement, 30, 1, true), NOBODY);
            no("no such agreement, ahead of -4", x -> x.fine(agreement, 0, 0, true), NOBODY);
        }
        no("it is OFF", x -> x.fine(3, 30, 1, true), STATE);
        no("it is OFF, ahead of -4", x -> x.fine(3, 19, 0, true), STATE);
        no("it is OFF, ahead of -6", x -> x.fine(3, 31, 10000, true), STATE);
        for (int day : new int[] {LOW, -1, 0, 19}) {
            no("ahead of the signing", x -> x.fine(1, day, 1, true), BELOW);
            no("ahead of the signing, ahead of -6", x -> x.fine(1, day, 10000, true), BELOW);
            no("ahead of the signing, ahead of 6", Bounds::fullFines, x -> x.fine(0, day, 1, true), BELOW);
        }
        for (int sum : new int[] {LOW, -1, 0}) {
            no("sum below 1", x -> x.fine(1, 30, sum, true), BELOW);
            no("sum below 1, ahead of -6", x -> x.fine(1, 31, sum, true), BELOW);
            no("sum below 1, ahead of 6", Bounds::fullFines, x -> x.fine(0, 30, sum, true), BELOW);
        }
        for (int day : new int[] {31, HIGH}) no("behind now", x -> x.fine(1, day, 1, true), ROOM);
        for (int sum : new int[] {10000, HIGH}) no("sum above 9999", x -> x.fine(1, 30, sum, true), ROOM);
        is("the least", x -> x.fine(1, 20, 1, true), 1);
        is("the greatest", x -> x.fine(1, 30, 9999, false), 1);
        is("the least and the greatest", x -> x.fine(1, 20, 9999, false), 1);
        is("the 6th", x -> x.fine(0, 30, 1, true) * 0 + x.fine(0, 30, 1, true) * 0 + x.fine(0, 30, 1, true), 6);
        no("the 7th", Bounds::fullFines, x -> x.fine(0, 30, 1, true), ROOM);
        is("another has room", Bounds::fullFines, x -> x.fine(1, 30, 1, true), 1);
        is("a dead man", x -> x.fine(4, 30, 1, true), 1);
        is("a man of a LOST voyage", x -> x.fine(2, 30, 1, true), 1);
        is("one who LEFT", x -> x.fine(5, 30, 1, true), 1);
    }

    private static void read() {
        about("promise 23");
        for (int agreement : NO_AGREEMENT) no("no such agreement", x -> x.read(agreement, 0), NOBODY);
        for (int i : new int[] {LOW, -1, 3, 6, HIGH}) no("no such FINE", x -> x.read(0, i), NOBODY);
        no("an agreement without one", x -> x.read(1, 0), NOBODY);
        no("no such FINE of a full one", Bounds::fullFines, x -> x.read(0, 6), NOBODY);
        no("it was, as it was told", x -> x.read(0, 1), STATE);
        no("its DAY is ahead of now", x -> x.read(0, 2), STATE);
        is("its DAY is now", x -> x.read(0, 0), 1);
        no("twice", x -> {
            Bounds.office(x);
            x.read(0, 0);
        }, x -> x.read(0, 0), STATE);
        no("a DAY later", x -> {
            Bounds.office(x);
            x.days(1);
        }, x -> x.read(0, 0), STATE);
        is("the last of 6", Bounds::fullFines, x -> x.read(0, 5), 1);
        is("when it is OFF", x -> x.off(0, 0) * 0 + x.read(0, 0), 1);
    }

    private static void stands() {
        about("promise 24");
        for (int agreement : NO_AGREEMENT) {
            no("no such agreement", x -> x.stands(agreement, 0, 30), NOBODY);
            no("no such agreement, ahead of -4", x -> x.stands(agreement, 0, -1), NOBODY);
        }
        for (int i : new int[] {LOW, -1, 3, 6, HIGH}) {
            no("no such FINE", x -> x.stands(0, i, 30), NOBODY);
            no("no such FINE, ahead of -4", x -> x.stands(0, i, -1), NOBODY);
            no("no such FINE, ahead of -6", x -> x.stands(0, i, 31), NOBODY);
        }
        no("an agreement without one", x -> x.stands(1, 0, 30), NOBODY);
        no("no such FINE of a full one", Bounds::fullFines, x -> x.stands(0, 6, 30), NOBODY);
        for (int k : new int[] {LOW, -1}) no("K below 0", x -> x.stands(0, 0, k), BELOW);
        for (int k : new int[] {31, HIGH}) no("K behind now", x -> x.stands(0, 0, k), ROOM);
        is("K 0", x -> x.stands(0, 0, 0), 40);
        is("K now", x -> x.stands(0, 1, 30), 50);
        is("the last", x -> x.stands(0, 2, 30), 60);
        is("the last of 6", Bounds::fullFines, x -> x.stands(0, 5, 30), 1);
    }

    private static void rations() {
        about("promise 25");
        for (int agreement : NO_AGREEMENT) {
            no("no such agreement", x -> x.rations(agreement, 1, 1), NOBODY);
            no("no such agreement, ahead of -4", x -> x.rations(agreement, 0, 0), NOBODY);
            no("no such agreement, ahead of -6", x -> x.rations(agreement, 1000, 100), NOBODY);
        }
        for (int below : new int[] {LOW, -1, 0}) {
            no("DAYS below 1", x -> x.rations(0, below, 1), BELOW);
            no("pence below 1", x -> x.rations(0, 1, below), BELOW);
            no("DAYS below 1, ahead of -6", x -> x.rations(0, below, 100), BELOW);
            no("pence below 1, ahead of -6", x -> x.rations(0, 1000, below), BELOW);
            no("pence below 1, ahead of 20", Bounds::fullTellings, x -> x.rations(0, 1, below), BELOW);
        }
        for (int days : new int[] {990, 1000, HIGH}) no("above 999 in all", x -> x.rations(0, days, 1), ROOM);
        for (int rate : new int[] {100, HIGH}) no("pence above 99", x -> x.rations(0, 1, rate), ROOM);
        is("1 at 1", x -> x.rations(1, 1, 1), 1);
        is("999 at 99", x -> x.rations(1, 999, 99), 999);
        no("1000", x -> x.rations(1, 1000, 1), ROOM);
        is("999 in all", x -> x.rations(0, 989, 1), 999);
        no("1 behind 999", Bounds::fullShort, x -> x.rations(0, 1, 1), ROOM);
        is("the 20th telling", x -> {
            for (int i = 1; i < 19; i++) x.rations(0, 1, 1);
            return x.rations(0, 1, 1);
        }, 29);
        no("the 21st telling", Bounds::fullTellings, x -> x.rations(0, 1, 1), ROOM);
        is("another's is its own", Bounds::fullTellings, x -> x.rations(1, 1, 1), 1);
        is("another's is its own", Bounds::fullShort, x -> x.rations(1, 999, 1), 999);
        for (int a : new int[] {2, 3, 4, 5}) is("LOST, OFF, DEAD, LEFT", x -> x.rations(a, 1, 1), 1);
    }

    private static void agreementOf() {
        about("promise 27");
        for (int agreement : NO_AGREEMENT) {
            no("no such agreement", x -> x.agreementOf(agreement, 0), NOBODY);
            no("no such agreement, ahead of -2", x -> x.agreementOf(agreement, 10), NOBODY);
        }
        for (int what : new int[] {LOW, -1, 10, HIGH}) no("no such what", x -> x.agreementOf(0, what), OTHER);
        int[] first = {0, 0, 3000, 0, 20, -9, 500, 400, 1000, 1};
        int[] third = {3, 3, 300, 3, 20, 30, 0, -9, 0, 0};
        int[] sixth = {6, 1, 100, 2, 20, -9, 50, -9, 0, 1};
        for (int i = 0; i < 10; i++) {
            int what = i;
            is("what " + what + " of 0", x -> x.agreementOf(0, what), first[what]);
            is("what " + what + " of 3", x -> x.agreementOf(3, what), third[what]);
            is("what " + what + " of 6", x -> x.agreementOf(6, what), sixth[what]);
        }
        is("OFF on DAY 0", x -> Bounds.signed(x), x -> x.off(0, 0) * 0 + x.agreementOf(0, 5), 0);
        is("DEAD does not go on", x -> x.agreementOf(4, 9), 0);
        is("LOST does not go on", x -> x.agreementOf(2, 9), 0);
        is("DEAD is not OFF", x -> x.agreementOf(4, 5), -9);
        is("LEFT goes on", x -> x.agreementOf(5, 9), 1);
        is("the last of 60", Bounds::fullAgreements, x -> x.agreementOf(59, 2), 30);
    }

    private static void group() {
        about("promise 29");
        for (int man : NO_MAN) no("no such man", x -> x.group(man), NOBODY);
        is("the first", x -> x.group(0), 0);
        is("the last", x -> x.group(6), 6);
        no("the 41st", Bounds::fullMen, x -> x.group(40), NOBODY);
        is("the 40th", Bounds::fullMen, x -> x.group(39), 39);
    }

    private static void borrowed() {
        about("promise 30");
        for (int agreement : NO_AGREEMENT) no("no such agreement", x -> x.borrowed(agreement), NOBODY);
        is("the first, without a paper", x -> x.borrowed(0), 0);
        is("the last, without a paper", x -> x.borrowed(6), 0);
        no("the 61st", Bounds::fullAgreements, x -> x.borrowed(60), NOBODY);
        is("the 60th", Bounds::fullAgreements, x -> x.borrowed(59), 0);
    }

    private static void home() {
        about("promise 31");
        for (int man : NO_MAN) no("no such man", x -> x.home(man), NOBODY);
        for (int m : new int[] {0, 1, 2, 3, 4, 6}) no("he is not LEFT", x -> x.home(m), STATE);
        is("LEFT sick", x -> x.home(5), 300);
        is("no way", x -> x.miles(5, 0, 0) * 0 + x.home(5), -9);
        for (int w : new int[] {0, 2}) {
            no("LEFT otherwise", x -> {
                Bounds.office(x);
                x.left(5, 29, w, 7);
            }, x -> x.home(5), STATE);
        }
        no("BACK", x -> {
            Bounds.office(x);
            x.back(5, 29);
        }, x -> x.home(5), STATE);
        no("OFF", x -> {
            Bounds.office(x);
            x.off(5, 7);
        }, x -> x.home(5), STATE);
        no("DEAD", x -> {
            Bounds.office(x);
            x.died(5, 20);
        }, x -> x.home(5), STATE);
        no("LOST", x -> {
            Bounds.office(x);
            x.lost(0, 30);
        }, x -> x.home(5), STATE);
        no("no agreement", x -> {
            Bounds.office(x);
            x.man(0, 0, 0);
        }, x -> x.home(7), STATE);
    }

    private static void ask() {
        about("promise 32");
        for (int man : NO_MAN) {
            no("no such man", x -> x.ask(man, 0, 1), NOBODY);
            no("no such man, ahead of -4", x -> x.ask(man, -1, -1), NOBODY);
            no("no such man, ahead of -6", x -> x.ask(man, 4, 10000), NOBODY);
        }
        for (int below : new int[] {LOW, -1}) {
            no("rank below 0", x -> x.ask(3, below, 1), BELOW);
            no("wage below 0", x -> x.ask(3, 0, below), BELOW);
            no("rank below 0, ahead of -6", x -> x.ask(3, below, 10000), BELOW);
            no("wage below 0, ahead of -6", x -> x.ask(3, 4, below), BELOW);
        }
        for (int rank : new int[] {4, HIGH}) no("rank above 3", x -> x.ask(3, rank, 1), ROOM);
        for (int wage : new int[] {10000, HIGH}) no("wage above 9999", x -> x.ask(3, 0, wage), ROOM);
        is("rank 0, wage 0", x -> x.ask(3, 0, 0), 100);
        is("rank 3, wage 9999", x -> x.ask(3, 3, 9999) * 0 + x.ask(3, 3, 1), 9999);
        is("rank 0, wage 1", x -> x.ask(6, 0, 1) * 0 + x.ask(6, 0, 9999), 1);
        is("not at it", x -> x.ask(3, 1, 1), 0);
        is("not at it any more", x -> x.ask(3, 0, 0) * 0 + x.ask(3, 0, 1), 0);
        is("one who is in an agreement", x -> x.ask(0, 0, 1) * 0 + x.count(17), 3);
        is("the 40th man", Bounds::fullMen, x -> x.ask(39, 3, 1), 0);
    }

    private static void crew() {
        about("promise 33");
        for (int hands : new int[] {LOW, -1}) {
            no("hands below 0", x -> x.crew(hands, 0), BELOW);
            no("hands below 0, ahead of -2", x -> x.crew(hands, 9), BELOW);
        }
        for (int hands : new int[] {81, HIGH}) {
            no("hands above 80", x -> x.crew(hands, 0), ROOM);
            no("hands above 80, ahead of -2", x -> x.crew(hands, -1), ROOM);
        }
        for (int what : new int[] {LOW, -1, 9, HIGH}) {
            no("no such what", x -> x.crew(1, what), OTHER);
            no("no such what of none", x -> x.crew(0, what), OTHER);
            no("no such what of all", x -> x.crew(80, what), OTHER);
        }
        is("none at all", x -> x.crew(0, 0), 0);
        is("none at all, the first hand", x -> x.crew(0, 1), -9);
        is("none at all, the 8th hand", x -> x.crew(0, 8), -9);
        is("not enough for all", x -> x.crew(80, 0), -9);
        is("not enough for all, a hand", x -> x.crew(80, 1), -9);
        is("one", x -> x.crew(1, 0), 100);
        is("one, the hand", x -> x.crew(1, 1), 3);
        is("one, no second hand", x -> x.crew(1, 2), -9);
        is("two ranks", x -> x.crew(1 + 3, 0), 150);
        is("one man has one rank", x -> x.crew(1 + 9, 0), -9);
        Bounds.Scene eight = x -> {
            for (int m = 0; m < 8; m++) {
                x.man(m, 100 * m, 0);
                x.ask(m, m / 2, 9999);
            }
        };
        is("two of each", eight, x -> x.crew(80, 0), 8 * 9999);
        is("the 8th hand", eight, x -> x.crew(80, 8), 7);
        is("79 wants one of rank 0 less", eight, x -> x.crew(79, 0), 7 * 9999);
        is("79, the 7th hand", eight, x -> x.crew(79, 7), 7);
        is("79, no 8th hand", eight, x -> x.crew(79, 8), -9);
    }

    private static void put() {
        about("promise 34");
        for (int v : new int[] {LOW, -1, 0, HIGH}) {
            is("any int", x -> x.put(v), 3);
            no("the 13th", Bounds::fullRow, x -> x.put(v), ROOM);
        }
        is("the 12th", x -> {
            for (int i = 3; i < 12; i++) x.put(i);
            return x.put(0);
        }, 12);
        is("room again behind a check", Bounds::fullRow, x -> x.check(0, 30, 30) * 0 + x.put(0), 1);
    }

    private static void check() {
        about("promise 35");
        askedOn(ShipOffice::check, NO_VOYAGE, false);
        is("all are right", x -> x.check(1, 30, 30), -9);
        is("the row has none then", x -> x.check(1, 30, 30) * 0 + x.count(9), 0);
        is("the row has none behind a wrong one, too", x -> x.check(0, 30, 30) * 0 + x.count(9), 0);
        is("one more than there are", x -> x.put(0) * 0 + x.check(1, 30, 30), 2);
        is("an empty row", x -> x.check(1, 30, 30) * 0 + x.check(1, 30, 30), 0);
        is("one less than there are", x -> x.check(1, 30, 30) * 0 + x.put(110) * 0 + x.check(1, 30, 30), 1);
        is("the first is wrong", x -> x.check(2, 30, 30), 0);
        is("an empty row of none", x -> x.check(1, 30, 30) * 0 + x.voyage(5, 0) * 0 + x.check(4, 30, 30), -9);
        is("a row of none", x -> x.voyage(5, 0) * 0 + x.check(4, 30, 30), 0);
        is("the least days", x -> x.check(1, 0, 0), 0);
    }

    private static void count() {
        about("promise 36");
        for (int what : new int[] {LOW, -1, 10, 18, HIGH}) is("another what", x -> x.count(what), -9);
        Bounds.Scene refused = x -> {
            for (int i = 0; i < 7; i++) {
                if (i < 1) x.group(0);
                if (i < 2) x.act(5, 0);
                if (i < 3) x.voyage(0, 0);
                if (i < 4) x.days(0);
                if (i < 6) x.days(HIGH);
            }
        };
        int[] refusals = {1, 2, 2, 4, 0, 6};
        for (int i = 0; i < 6; i++) {
            int what = 11 + i;
            is("refusals " + (10 - what), refused, x -> x.count(what), refusals[i]);
        }
        is("those not ENDED: the LOST one, too", x -> x.count(3), 3);
        is("those that go on", x -> x.count(5), 4);
        is("the last that goes on", x -> x.ended(0, 0) * 0 + x.ended(1, 0) * 0 + x.count(5), 0);
    }
}
