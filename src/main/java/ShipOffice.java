import java.util.Arrays;

/** A shipping office. The document ../shared/DOC.md says what each call answers. */
public final class ShipOffice {
    private static final int NOBODY = -1;
    private static final int OTHER = -2;
    private static final int STATE = -3;
    private static final int BELOW = -4;
    private static final int ROOM = -6;
    private static final int NONE = -9;
    private static final int FAULT = -20;
    /** Answers that may be below 0 need refusals that no such answer can be. */
    private static final int REFUSED_SUM = 1000000000;

    private static final int LAST_DAY = 3000;
    /** A day that no call can reach, so that comparisons need no flag beside it. */
    private static final int NEVER = 1000000;
    private static final int MOST_MEN = 40;
    private static final int MOST_VOYAGES = 20;
    private static final int MOST_AGREEMENTS = 60;
    private static final int MOST_HAPPENINGS = 200;
    private static final int MOST_ACTS = 30;
    private static final int MOST_BYTES = 60;
    private static final int MOST_FINES = 6;
    private static final int MOST_SHORTS = 20;
    private static final int MOST_SHORT_DAYS = 999;
    private static final int MOST_INTS = 12;
    private static final int PORTS = 10;
    private static final int SHIPS = 10;
    private static final int RANKS = 4;
    private static final int LAST_WAGE = 9999;

    private static final int SIGN = 0;
    private static final int FINE = 1;
    private static final int FORFEIT = 2;
    private static final int ALLOT = 3;
    private static final int PRESUME = 4;
    private static final int PURPOSES = 5;

    private static final char[] LETTERS = {'w', 'r', 'a', 'd', 'n', 's', 'l', 'x'};
    private static final int W = 0;
    private static final int R = 1;
    private static final int A = 2;
    private static final int D = 3;
    private static final int N = 4;
    private static final int S = 5;
    private static final int L = 6;
    private static final int X = 7;

    private static final int NOT_SIGNED = -9;
    private static final int SIGNED = 0;
    private static final int ABOARD = 1;
    private static final int NOT_KNOWN = 2;
    private static final int GONE = 3;
    private static final int DEAD = 4;
    private static final int PAID_OFF = 5;
    /** Sets of states, a bit for each. */
    private static final int EARNING = 1 << SIGNED | 1 << ABOARD | 1 << NOT_KNOWN;
    private static final int ONLY_ABOARD = 1 << ABOARD;

    private static final int LEFT = 0;
    private static final int BACK = 1;
    private static final int DIED = 2;
    private static final int HEARD = 3;
    private static final int DESERTED = 0;
    private static final int SICK = 1;
    private static final int LAST_WAY = 2;

    private int now;
    private final Man[] men = new Man[MOST_MEN];
    private int manCount;
    private final Voyage[] voyages = new Voyage[MOST_VOYAGES];
    private int voyageCount;
    private final Agreement[] agreements = new Agreement[MOST_AGREEMENTS];
    private int agreementCount;
    private int happeningCount;
    private final Law law = new Law();
    private final Tape tape = new Tape();
    private final Sea sea = new Sea();
    private final Hiring hiring = new Hiring();
    private final int[] letters = new int[LETTERS.length];
    private final int[] row = new int[MOST_INTS];
    private int rowCount;
    private final int[] refusals = new int[-ROOM + 1];

    public ShipOffice() {
    }

    public int days(int n) {
        if (n < 1) {
            return refuse(BELOW);
        }
        if (n > LAST_DAY - now) {
            return refuse(ROOM);
        }
        now += n;
        return now;
    }

    public int miles(int a, int b, int v) {
        if (!isPort(a) || !isPort(b) || a == b) {
            return refuse(NOBODY);
        }
        if (v < 0) {
            return refuse(BELOW);
        }
        if (v > 9999) {
            return refuse(ROOM);
        }
        return sea.join(a, b, v);
    }

    public int man(int name, int marks, int born) {
        if (name < 0 || marks < 0 || born < -30000) {
            return refuse(BELOW);
        }
        if (name > 9999 || marks > 99999 || born > now || manCount >= MOST_MEN) {
            return refuse(ROOM);
        }
        men[manCount] = new Man(manCount, name, marks, born);
        manCount++;
        joinGroups(men[manCount - 1]);
        return manCount - 1;
    }

    public int voyage(int ship, int port) {
        if (ship < 0 || ship >= SHIPS || !isPort(port)) {
            return refuse(NOBODY);
        }
        if (hasVoyage(ship)) {
            return refuse(STATE);
        }
        if (voyageCount >= MOST_VOYAGES) {
            return refuse(ROOM);
        }
        voyages[voyageCount] = new Voyage(voyageCount, ship, port, now);
        voyageCount++;
        return voyageCount - 1;
    }

    public int ended(int voyage, int port) {
        Voyage v = voyageAt(voyage);
        if (v == null || !isPort(port)) {
            return refuse(NOBODY);
        }
        if (v.isOver || v.lostTold != NEVER) {
            return refuse(STATE);
        }
        v.isOver = true;
        int paid = 0;
        for (int i = 0; i < agreementCount; i++) {
            Agreement a = agreements[i];
            if (a.voyage == v && a.goesOn()) {
                a.offDay = now;
                paid++;
            }
        }
        return paid;
    }

    public int sailed(int voyage, int day) {
        Voyage v = voyageAt(voyage);
        if (v == null) {
            return refuse(NOBODY);
        }
        int no = voyageRefusal(v, day, v.sailedTold != NEVER);
        if (no != 0) {
            return refuse(no);
        }
        v.sailedDay = day;
        v.sailedTold = now;
        happeningCount++;
        return happeningCount;
    }

    public int heard(int voyage, int day) {
        Voyage v = voyageAt(voyage);
        if (v == null) {
            return refuse(NOBODY);
        }
        int no = voyageRefusal(v, day, false);
        if (no != 0) {
            return refuse(no);
        }
        v.heardOf = new Happening(HEARD, day, now, NONE, NONE, v.heardOf);
        happeningCount++;
        return happeningCount;
    }

    public int lost(int voyage, int day) {
        Voyage v = voyageAt(voyage);
        if (v == null) {
            return refuse(NOBODY);
        }
        int no = voyageRefusal(v, day, v.lostTold != NEVER);
        if (no != 0) {
            return refuse(no);
        }
        v.lostDay = day;
        v.lostTold = now;
        happeningCount++;
        return happeningCount;
    }

    public int left(int agreement, int day, int way, int port) {
        Agreement a = agreementAt(agreement);
        if (a == null || !isPort(port)) {
            return refuse(NOBODY);
        }
        if (way < 0 || way > LAST_WAY) {
            return refuse(OTHER);
        }
        int no = tidingRefusal(a, day);
        if (no != 0) {
            return refuse(no);
        }
        return addTiding(a, LEFT, day, way, port);
    }

    public int died(int agreement, int day) {
        Agreement a = agreementAt(agreement);
        if (a == null) {
            return refuse(NOBODY);
        }
        int no = tidingRefusal(a, day);
        if (no != 0) {
            return refuse(no);
        }
        a.isDead = true;
        return addTiding(a, DIED, day, NONE, NONE);
    }

    public int back(int agreement, int day) {
        Agreement a = agreementAt(agreement);
        if (a == null) {
            return refuse(NOBODY);
        }
        int no = tidingRefusal(a, day);
        if (no != 0) {
            return refuse(no);
        }
        return addTiding(a, BACK, day, NONE, NONE);
    }

    public int feed(int n, long bytes) {
        if (n < 1) {
            return refuse(BELOW);
        }
        if (n > 8 || n > MOST_BYTES - tape.size) {
            return refuse(ROOM);
        }
        for (int i = 0; i < n; i++) {
            tape.add((int) (bytes >> 8 * i & 255));
        }
        return tape.size;
    }

    public int act(int purpose, int day) {
        if (purpose < 0 || purpose >= PURPOSES) {
            return refuse(OTHER);
        }
        if (day < now) {
            return refuse(BELOW);
        }
        if (day > LAST_DAY || law.actCount >= MOST_ACTS) {
            return refuse(ROOM);
        }
        int fault = tape.parse();
        if (fault < 0) {
            law.add(new Act(purpose, day, Arrays.copyOf(tape.code, tape.codeSize)));
        }
        tape.size = 0;
        return fault < 0 ? law.actCount : FAULT - fault;
    }

    public int sign(int man, int voyage, int wage, int rank, int paper) {
        Man m = manAt(man);
        Voyage v = voyageAt(voyage);
        Agreement shown = agreementAt(paper);
        if (m == null || v == null || shown == null && paper != -1) {
            return refuse(NOBODY);
        }
        if (wage < 1 || rank < 0) {
            return refuse(BELOW);
        }
        if (wage > LAST_WAGE || rank >= RANKS || agreementCount >= MOST_AGREEMENTS) {
            return refuse(ROOM);
        }
        boolean mayShow = shown == null || shown.offDay != NEVER;
        if (!v.takesHands() || !isFree(m) || !mayShow || signWorth(m, wage, rank) <= 0) {
            return refuse(STATE);
        }
        Agreement a = new Agreement(m, v, now, shown);
        a.wage = wage;
        a.rank = rank;
        agreements[agreementCount] = a;
        agreementCount++;
        return agreementCount - 1;
    }

    public int off(int agreement, int port) {
        Agreement a = agreementAt(agreement);
        if (a == null || !isPort(port)) {
            return refuse(NOBODY);
        }
        if (!a.goesOn()) {
            return refuse(STATE);
        }
        a.offDay = now;
        return 1;
    }

    public int state(int agreement, int j, int k) {
        Agreement a = agreementAt(agreement);
        if (a == null) {
            return refuse(NOBODY);
        }
        int no = askRefusal(j, k);
        if (no != 0) {
            return refuse(no);
        }
        return a.stateOn(j, k, law);
    }

    public int earns(int agreement, int j, int k) {
        Agreement a = agreementAt(agreement);
        if (a == null) {
            return refuse(NOBODY);
        }
        int no = askRefusal(j, k);
        if (no != 0) {
            return refuse(no);
        }
        return a.earningDays(j, k, law);
    }

    public int advance(int agreement, int sum) {
        Agreement a = agreementAt(agreement);
        if (a == null) {
            return refuse(NOBODY);
        }
        if (a.note != 0 || a.stateOn(now, now, law) != SIGNED) {
            return refuse(STATE);
        }
        if (sum < 1) {
            return refuse(BELOW);
        }
        if (sum > 99999) {
            return refuse(ROOM);
        }
        a.note = sum;
        return 1;
    }

    public int sold(int agreement, int given) {
        Agreement a = agreementAt(agreement);
        if (a == null) {
            return refuse(NOBODY);
        }
        if (a.note == 0 || a.given != 0) {
            return refuse(STATE);
        }
        if (given < 1) {
            return refuse(BELOW);
        }
        if (given >= a.note) {
            return refuse(ROOM);
        }
        a.given = given;
        return a.note - given;
    }

    public int allot(int agreement, int sum) {
        Agreement a = agreementAt(agreement);
        if (a == null) {
            return refuse(NOBODY);
        }
        if (a.allotment != 0 || !a.goesOn()) {
            return refuse(STATE);
        }
        if (sum < 1) {
            return refuse(BELOW);
        }
        if (sum > 9999) {
            return refuse(ROOM);
        }
        long hundredths = worthFor(ALLOT, a, now, now, sum, 0);
        if (sum > a.wage * hundredths / 100) {
            return refuse(ROOM);
        }
        a.allotment = sum;
        return 1;
    }

    public int fine(int agreement, int day, int sum, boolean read) {
        Agreement a = agreementAt(agreement);
        if (a == null) {
            return refuse(NOBODY);
        }
        if (a.offDay != NEVER) {
            return refuse(STATE);
        }
        if (day < a.signedOn || sum < 1) {
            return refuse(BELOW);
        }
        if (day > now || sum > 9999 || a.fineCount >= MOST_FINES) {
            return refuse(ROOM);
        }
        a.fines[a.fineCount] = new Fine(day, sum, read);
        a.fineCount++;
        return a.fineCount;
    }

    public int read(int agreement, int i) {
        Fine f = fineAt(agreementAt(agreement), i);
        if (f == null) {
            return refuse(NOBODY);
        }
        if (f.isRead || f.day != now) {
            return refuse(STATE);
        }
        f.isRead = true;
        return 1;
    }

    public int stands(int agreement, int i, int k) {
        Agreement a = agreementAt(agreement);
        Fine f = fineAt(a, i);
        if (a == null || f == null) {
            return refuse(NOBODY);
        }
        if (k < 0) {
            return refuse(BELOW);
        }
        if (k > now) {
            return refuse(ROOM);
        }
        return standing(a, f, k);
    }

    public int rations(int agreement, int days, int rate) {
        Agreement a = agreementAt(agreement);
        if (a == null) {
            return refuse(NOBODY);
        }
        if (days < 1 || rate < 1) {
            return refuse(BELOW);
        }
        if (days > MOST_SHORT_DAYS - a.shortDays || rate > 99 || a.shortCount >= MOST_SHORTS) {
            return refuse(ROOM);
        }
        a.addShort(days, rate, now);
        return a.shortDays;
    }

    public int owed(int agreement, int j, int k) {
        Agreement a = agreementAt(agreement);
        if (a == null) {
            return REFUSED_SUM - refuse(NOBODY);
        }
        int no = askRefusal(j, k);
        if (no != 0) {
            return REFUSED_SUM - refuse(no);
        }
        return owedOn(a, j, k);
    }

    public int agreementOf(int agreement, int what) {
        Agreement a = agreementAt(agreement);
        if (a == null) {
            return refuse(NOBODY);
        }
        switch (what) {
            case 0:
                return a.man.number;
            case 1:
                return a.voyage.number;
            case 2:
                return a.wage;
            case 3:
                return a.rank;
            case 4:
                return a.signedOn;
            case 5:
                return a.offDay == NEVER ? NONE : a.offDay;
            case 6:
                return a.note;
            case 7:
                return a.given == 0 ? NONE : a.given;
            case 8:
                return a.allotment;
            case 9:
                return a.goesOn() ? 1 : 0;
            default:
                return refuse(OTHER);
        }
    }

    public int aboard(int voyage, int j, int k) {
        Voyage v = voyageAt(voyage);
        if (v == null) {
            return refuse(NOBODY);
        }
        int no = askRefusal(j, k);
        if (no != 0) {
            return refuse(no);
        }
        return menAboard(v, j, k);
    }

    public int group(int man) {
        Man m = manAt(man);
        return m == null ? refuse(NOBODY) : m.leastAlike;
    }

    public int borrowed(int agreement) {
        Agreement a = agreementAt(agreement);
        if (a == null) {
            return refuse(NOBODY);
        }
        if (a.paper == null) {
            return 0;
        }
        return a.paper.man.leastAlike != a.man.leastAlike || isShownTwice(a) ? 1 : 0;
    }

    public int home(int man) {
        Man m = manAt(man);
        if (m == null) {
            return refuse(NOBODY);
        }
        for (int i = 0; i < agreementCount; i++) {
            Agreement a = agreements[i];
            Happening leaving = a.man == m ? a.leavingOn(now, now, law) : null;
            if (leaving != null && leaving.way == SICK) {
                return sea.way(leaving.port, a.voyage.port);
            }
        }
        return refuse(STATE);
    }

    public int ask(int man, int rank, int wage) {
        Man m = manAt(man);
        if (m == null) {
            return refuse(NOBODY);
        }
        if (rank < 0 || wage < 0) {
            return refuse(BELOW);
        }
        if (rank >= RANKS || wage > LAST_WAGE) {
            return refuse(ROOM);
        }
        int was = m.wages[rank];
        m.wages[rank] = wage;
        return was;
    }

    public int crew(int hands, int what) {
        if (hands < 0) {
            return refuse(BELOW);
        }
        if (hands > Hiring.MOST_HANDS) {
            return refuse(ROOM);
        }
        if (what < 0 || what > 8) {
            return refuse(OTHER);
        }
        hiring.begin(hands);
        for (int i = 0; i < manCount; i++) {
            if (men[i].asks() && isFree(men[i])) {
                hiring.offer(men[i]);
            }
        }
        return what == 0 ? hiring.leastSum() : hiring.hand(what - 1);
    }

    public int put(int v) {
        if (rowCount >= MOST_INTS) {
            return refuse(ROOM);
        }
        row[rowCount] = v;
        rowCount++;
        return rowCount;
    }

    public int check(int voyage, int j, int k) {
        Voyage v = voyageAt(voyage);
        if (v == null) {
            return refuse(NOBODY);
        }
        int no = askRefusal(j, k);
        if (no != 0) {
            return refuse(no);
        }
        int size = rowCount;
        rowCount = 0;
        int place = 0;
        for (int i = 0; i < agreementCount; i++) {
            if (agreements[i].voyage == v) {
                if (place >= size || row[place] != owedOn(agreements[i], j, k)) {
                    return place;
                }
                place++;
            }
        }
        return place < size ? place : NONE;
    }

    public int count(int what) {
        switch (what) {
            case 0:
                return now;
            case 1:
                return manCount;
            case 2:
                return voyageCount;
            case 3:
                return openVoyages();
            case 4:
                return agreementCount;
            case 5:
                return openAgreements();
            case 6:
                return happeningCount;
            case 7:
                return law.actCount;
            case 8:
                return tape.size;
            case 9:
                return rowCount;
            case 17:
                return menWhoAsk();
            default:
                return what >= 11 && what <= 16 ? refusals[what - 10] : NONE;
        }
    }

    private int refuse(int number) {
        refusals[-number]++;
        return number;
    }

    private static boolean isPort(int port) {
        return port >= 0 && port < PORTS;
    }

    private Man manAt(int number) {
        return number < 0 || number >= manCount ? null : men[number];
    }

    private Voyage voyageAt(int number) {
        return number < 0 || number >= voyageCount ? null : voyages[number];
    }

    private Agreement agreementAt(int number) {
        return number < 0 || number >= agreementCount ? null : agreements[number];
    }

    private static Fine fineAt(Agreement a, int number) {
        return a == null || number < 0 || number >= a.fineCount ? null : a.fines[number];
    }

    /** Why a happening of a voyage can't be told; 0 if it can. */
    private int voyageRefusal(Voyage v, int day, boolean wasTold) {
        if (wasTold || v.isOver) {
            return STATE;
        }
        if (day < v.openedOn) {
            return BELOW;
        }
        return day > now || happeningCount >= MOST_HAPPENINGS ? ROOM : 0;
    }

    /** Why a happening of a man can't be told; 0 if it can. */
    private int tidingRefusal(Agreement a, int day) {
        if (a.offDay != NEVER) {
            return STATE;
        }
        if (day < a.signedOn) {
            return BELOW;
        }
        return day > now || happeningCount >= MOST_HAPPENINGS ? ROOM : 0;
    }

    /** Why a day j as known on k can't be asked for; 0 if it can. */
    private int askRefusal(int j, int k) {
        if (j < 0 || k < 0) {
            return BELOW;
        }
        return j > k || k > now ? STATE : 0;
    }

    private int addTiding(Agreement a, int kind, int day, int way, int port) {
        a.tidings = new Happening(kind, day, now, way, port, a.tidings);
        happeningCount++;
        return happeningCount;
    }

    /** Groups only grow, by each new man; so they are kept joined from call to call. */
    private void joinGroups(Man newest) {
        for (int i = 0; i < manCount; i++) {
            if (newest.isAlike(men[i])) {
                mergeGroups(newest.leastAlike, men[i].leastAlike);
            }
        }
    }

    private void mergeGroups(int one, int other) {
        int least = Math.min(one, other);
        int most = Math.max(one, other);
        for (int i = 0; i < manCount; i++) {
            if (men[i].leastAlike == most) {
                men[i].leastAlike = least;
            }
        }
    }

    private boolean hasVoyage(int ship) {
        for (int i = 0; i < voyageCount; i++) {
            if (voyages[i].ship == ship && !voyages[i].isOver) {
                return true;
            }
        }
        return false;
    }

    private boolean isFree(Man m) {
        for (int i = 0; i < agreementCount; i++) {
            if (agreements[i].man == m && agreements[i].goesOn()) {
                return false;
            }
        }
        return true;
    }

    private int openVoyages() {
        int open = 0;
        for (int i = 0; i < voyageCount; i++) {
            if (!voyages[i].isOver) {
                open++;
            }
        }
        return open;
    }

    private int openAgreements() {
        int open = 0;
        for (int i = 0; i < agreementCount; i++) {
            if (agreements[i].goesOn()) {
                open++;
            }
        }
        return open;
    }

    private int menWhoAsk() {
        int asking = 0;
        for (int i = 0; i < manCount; i++) {
            if (men[i].asks()) {
                asking++;
            }
        }
        return asking;
    }

    private int menAboard(Voyage v, int j, int k) {
        int number = 0;
        for (int i = 0; i < agreementCount; i++) {
            if (agreements[i].voyage == v && agreements[i].stateOn(j, k, law) == ABOARD) {
                number++;
            }
        }
        return number;
    }

    private boolean isShownTwice(Agreement a) {
        for (int i = 0; i < agreementCount; i++) {
            Agreement other = agreements[i];
            if (other != a && other.paper == a.paper
                    && other.signedOn <= lastDay(a) && a.signedOn <= lastDay(other)) {
                return true;
            }
        }
        return false;
    }

    private int lastDay(Agreement a) {
        return a.offDay == NEVER ? now : a.offDay;
    }

    private int signWorth(Man m, int wage, int rank) {
        Arrays.fill(letters, 0);
        letters[W] = wage;
        letters[R] = rank;
        letters[A] = m.yearsOn(now);
        return law.inForce(SIGN, now).worth(letters);
    }

    /** What the text for a purpose is worth on a day as known on k, for a sum that is asked. */
    private int worthFor(int purpose, Agreement a, int day, int k, int sum, int read) {
        Act act = law.inForce(purpose, day);
        letters[W] = a.wage;
        letters[R] = a.rank;
        letters[A] = a.man.yearsOn(day);
        // d and n are dear to find, so they are only found for a text that has them
        letters[D] = act.uses(D) ? a.daysIn(ONLY_ABOARD, day, k, law) : 0;
        letters[N] = act.uses(N) ? menAboard(a.voyage, day, k) : 0;
        letters[S] = sum;
        letters[L] = a.voyage.daysUnheard(day, k);
        letters[X] = read;
        return act.worth(letters);
    }

    private int standing(Agreement a, Fine f, int k) {
        int worth = worthFor(FINE, a, f.day, k, f.sum, f.isRead ? 1 : 0);
        return Math.max(0, Math.min(f.sum, worth));
    }

    private int owedOn(Agreement a, int j, int k) {
        if (j < a.signedOn) {
            return 0;
        }
        int sum = a.wage * a.earningDays(j, k, law) / 30;
        sum -= a.notePaid(j, k, law) + a.allotmentsPaid(j, k, law);
        for (int i = 0; i < a.fineCount; i++) {
            if (a.fines[i].day <= j) {
                sum -= standing(a, a.fines[i], k);
            }
        }
        sum += a.shortPence(k);
        Happening leaving = a.leavingOn(j, k, law);
        if (sum <= 0 || leaving == null || leaving.way != DESERTED) {
            return sum;
        }
        int worth = worthFor(FORFEIT, a, j, k, 0, 0);
        long hundredths = Math.max(0, Math.min(100, worth));
        return sum - (int) (sum * hundredths / 100);
    }

    static final class Man {
        final int number;
        final int name;
        final int marks;
        final int born;
        final int[] wages = new int[RANKS];
        int leastAlike;

        Man(int number, int name, int marks, int born) {
            this.number = number;
            this.name = name;
            this.marks = marks;
            this.born = born;
            this.leastAlike = number;
        }

        int yearsOn(int day) {
            return (day - born) / 365;
        }

        boolean asks() {
            for (int wage : wages) {
                if (wage > 0) {
                    return true;
                }
            }
            return false;
        }

        boolean isAlike(Man other) {
            return marks == other.marks || name == other.name && digitsApart(marks, other.marks) <= 1;
        }

        private static int digitsApart(int one, int other) {
            int apart = 0;
            int a = one;
            int b = other;
            for (int i = 0; i < 5; i++) {
                if (a % 10 != b % 10) {
                    apart++;
                }
                a /= 10;
                b /= 10;
            }
            return apart;
        }
    }

    /** What happened as of a day, and the one of the same chain that was told before it. */
    static final class Happening {
        final int kind;
        final int day;
        final int told;
        /** Only of LEFT, as is the port; else NONE. */
        final int way;
        final int port;
        final Happening before;

        Happening(int kind, int day, int told, int way, int port, Happening before) {
            this.kind = kind;
            this.day = day;
            this.told = told;
            this.way = way;
            this.port = port;
            this.before = before;
        }
    }

    static final class Voyage {
        final int number;
        final int ship;
        final int port;
        final int openedOn;
        boolean isOver;
        int sailedDay = NEVER;
        int sailedTold = NEVER;
        int lostDay = NEVER;
        int lostTold = NEVER;
        Happening heardOf;

        Voyage(int number, int ship, int port, int openedOn) {
            this.number = number;
            this.ship = ship;
            this.port = port;
            this.openedOn = openedOn;
        }

        boolean takesHands() {
            return !isOver && sailedTold == NEVER && lostTold == NEVER;
        }

        boolean sailedBy(int j, int k) {
            return sailedTold <= k && sailedDay <= j;
        }

        boolean lostBy(int j, int k) {
            return lostTold <= k && lostDay <= j;
        }

        /** The last day up to j as of which it was heard of or sailed, as known on k; -1 if none. */
        int lastHeard(int j, int k) {
            int last = sailedTold <= k && sailedDay <= j ? sailedDay : -1;
            for (Happening h = heardOf; h != null; h = h.before) {
                if (h.told <= k && h.day <= j && h.day > last) {
                    last = h.day;
                }
            }
            return last;
        }

        int daysUnheard(int j, int k) {
            int last = lastHeard(j, k);
            return last < 0 ? 0 : j - last;
        }

        /** The first day behind a day as of which something of the voyage is told, as known on k. */
        int nextTold(int day, int k) {
            int next = NEVER;
            if (sailedTold <= k && sailedDay > day) {
                next = sailedDay;
            }
            if (lostTold <= k && lostDay > day && lostDay < next) {
                next = lostDay;
            }
            for (Happening h = heardOf; h != null; h = h.before) {
                if (h.told <= k && h.day > day && h.day < next) {
                    next = h.day;
                }
            }
            return next;
        }
    }

    static final class Fine {
        final int day;
        final int sum;
        boolean isRead;

        Fine(int day, int sum, boolean isRead) {
            this.day = day;
            this.sum = sum;
            this.isRead = isRead;
        }
    }

    static final class Agreement {
        final Man man;
        final Voyage voyage;
        final int signedOn;
        final Agreement paper;
        int wage;
        int rank;
        int offDay = NEVER;
        boolean isDead;
        Happening tidings;
        int note;
        int given;
        int allotment;
        final Fine[] fines = new Fine[MOST_FINES];
        int fineCount;
        final int[] shortTold = new int[MOST_SHORTS];
        final int[] shortSum = new int[MOST_SHORTS];
        int shortCount;
        int shortDays;

        Agreement(Man man, Voyage voyage, int signedOn, Agreement paper) {
            this.man = man;
            this.voyage = voyage;
            this.signedOn = signedOn;
            this.paper = paper;
        }

        /** As known now: whatever was told is known. */
        boolean goesOn() {
            return offDay == NEVER && !isDead && voyage.lostTold == NEVER;
        }

        int stateOn(int j, int k, Law law) {
            if (j < signedOn) {
                return NOT_SIGNED;
            }
            if (voyage.lostBy(j, k) || isDead && diedBy(j, k)) {
                return DEAD;
            }
            if (offDay <= j && offDay <= k) {
                return PAID_OFF;
            }
            Happening last = lastMove(j, k);
            if (last != null && last.kind == LEFT) {
                return GONE;
            }
            if (!voyage.sailedBy(j, k)) {
                return SIGNED;
            }
            return voyage.lastHeard(j, k) < j - law.inForce(PRESUME, j).plainWorth ? NOT_KNOWN : ABOARD;
        }

        private boolean diedBy(int j, int k) {
            for (Happening h = tidings; h != null; h = h.before) {
                if (h.kind == DIED && h.told <= k && h.day <= j) {
                    return true;
                }
            }
            return false;
        }

        /** The LEFT or BACK that counts on j: the chain has the newest first, so it wins its day. */
        private Happening lastMove(int j, int k) {
            Happening last = null;
            for (Happening h = tidings; h != null; h = h.before) {
                boolean counts = h.kind != DIED && h.told <= k && h.day <= j;
                if (counts && (last == null || h.day > last.day)) {
                    last = h;
                }
            }
            return last;
        }

        /** How he left, if his state on j is that he has; else null. */
        Happening leavingOn(int j, int k, Law law) {
            return stateOn(j, k, law) == GONE ? lastMove(j, k) : null;
        }

        int earningDays(int j, int k, Law law) {
            int last = j;
            if (stateOn(j, k, law) == NOT_KNOWN) {
                last = voyage.lastHeard(j, k);
            }
            return daysIn(EARNING, last, k, law);
        }

        /** The days from the signing to the last on which his state is one of a set. */
        int daysIn(int states, int last, int k, Law law) {
            int total = 0;
            int day = signedOn;
            // each turn takes a stretch of days of one state
            for (int turn = 0; turn <= LAST_DAY && day <= last; turn++) {
                int state = stateOn(day, k, law);
                int next = Math.min(nextChange(day, k, law), last + 1);
                if (state >= 0 && (states >> state & 1) == 1) {
                    total += next - day;
                }
                day = next;
            }
            return total;
        }

        /** A day behind a day up to which his state stays the same. */
        private int nextChange(int day, int k, Law law) {
            int next = nearer(day, offDay, NEVER);
            next = nearer(day, voyage.nextTold(day, k), next);
            next = nearer(day, law.nextPresume(day), next);
            next = nearer(day, voyage.lastHeard(day, k) + law.inForce(PRESUME, day).plainWorth + 1, next);
            for (Happening h = tidings; h != null; h = h.before) {
                if (h.told <= k) {
                    next = nearer(day, h.day, next);
                }
            }
            return next;
        }

        /** The one of two days that is behind a day and next to it; the second is behind it anyway. */
        private static int nearer(int day, int one, int other) {
            return one > day && one < other ? one : other;
        }

        int notePaid(int j, int k, Law law) {
            if (note == 0 || !voyage.sailedBy(j - 3, k)) {
                return 0;
            }
            return stateOn(voyage.sailedDay + 3, k, law) == ABOARD ? note : 0;
        }

        int allotmentsPaid(int j, int k, Law law) {
            if (allotment == 0 || !voyage.sailedBy(j, k)) {
                return 0;
            }
            int paid = 0;
            for (int day = voyage.sailedDay + 30; day <= j; day += 30) {
                if (stateOn(day, k, law) == ABOARD) {
                    paid += allotment;
                }
            }
            return paid;
        }

        void addShort(int days, int rate, int told) {
            if (shortCount < MOST_SHORTS) {
                shortTold[shortCount] = told;
                shortSum[shortCount] = days * rate;
                shortCount++;
                shortDays += days;
            }
        }

        int shortPence(int k) {
            int pence = 0;
            for (int i = 0; i < shortCount; i++) {
                if (shortTold[i] <= k) {
                    pence += shortSum[i];
                }
            }
            return pence;
        }
    }

    /** A text for a purpose, as steps for a stack: numbers, letters, and signs behind their two parts. */
    static final class Act {
        static final int FIRST_LETTER = -1;
        static final int FIRST_SIGN = -11;
        static final char[] SIGNS = {'+', '-', '*', '/', '<', '=', '>'};
        private static final int BOUND = 1000000000;

        final int purpose;
        final int day;
        /** Its worth with all letters 0: all that PRESUME ever asks for. */
        final int plainWorth;
        private final int[] code;
        private final int[] stack;

        Act(int purpose, int day, int[] code) {
            this.purpose = purpose;
            this.day = day;
            this.code = code;
            this.stack = new int[code.length + 1];
            this.plainWorth = worth(new int[LETTERS.length]);
        }

        boolean uses(int letter) {
            for (int step : code) {
                if (step == FIRST_LETTER - letter) {
                    return true;
                }
            }
            return false;
        }

        int worth(int[] values) {
            int top = 0;
            for (int step : code) {
                if (step > FIRST_SIGN && top < stack.length) {
                    int letter = FIRST_LETTER - step;
                    stack[top] = letter >= 0 && letter < values.length ? values[letter] : step;
                    top++;
                } else if (top >= 2) {
                    top--;
                    stack[top - 1] = joined(stack[top - 1], stack[top], FIRST_SIGN - step);
                }
            }
            return stack[0];
        }

        private static int joined(long one, long other, int sign) {
            switch (sign) {
                case 0:
                    return held(one + other);
                case 1:
                    return held(one - other);
                case 2:
                    return held(one * other);
                case 3:
                    return other == 0 ? 0 : held(one / other);
                case 4:
                    return one < other ? 1 : 0;
                case 5:
                    return one == other ? 1 : 0;
                default:
                    return one > other ? 1 : 0;
            }
        }

        private static int held(long value) {
            if (value > BOUND) {
                return BOUND;
            }
            return value < -BOUND ? -BOUND : (int) value;
        }
    }

    static final class Law {
        private final Act[] acts = new Act[MOST_ACTS];
        /** What holds where no act is in force, ahead of every day. */
        private final Act[] customs = new Act[PURPOSES];
        int actCount;

        Law() {
            customs[SIGN] = new Act(SIGN, -1, new int[] {1});
            customs[FINE] = new Act(FINE, -1, new int[] {Act.FIRST_LETTER - S});
            customs[FORFEIT] = new Act(FORFEIT, -1, new int[] {100});
            customs[ALLOT] = new Act(ALLOT, -1, new int[] {50});
            customs[PRESUME] = new Act(PRESUME, -1, new int[] {90});
        }

        void add(Act act) {
            if (actCount < MOST_ACTS) {
                acts[actCount] = act;
                actCount++;
            }
        }

        Act inForce(int purpose, int day) {
            Act best = customs[purpose];
            for (int i = 0; i < actCount; i++) {
                Act act = acts[i];
                if (act.purpose == purpose && act.day <= day && act.day >= best.day) {
                    best = act;
                }
            }
            return best;
        }

        /** The first day behind a day from which another PRESUME may be in force. */
        int nextPresume(int day) {
            int next = NEVER;
            for (int i = 0; i < actCount; i++) {
                if (acts[i].purpose == PRESUME && acts[i].day > day && acts[i].day < next) {
                    next = acts[i].day;
                }
            }
            return next;
        }
    }

    /** The bytes of a text to come, and its reader. */
    static final class Tape {
        private static final int DEEPEST = 5;
        private static final int MOST_DIGITS = 5;

        private final int[] bytes = new int[MOST_BYTES];
        int size;
        final int[] code = new int[MOST_BYTES];
        int codeSize;
        private int at;
        private int fault;

        void add(int value) {
            if (size < MOST_BYTES) {
                bytes[size] = value;
                size++;
            }
        }

        /** The place of the fault, or -1 if there is none and the code stands. */
        int parse() {
            at = 0;
            codeSize = 0;
            fault = -1;
            parseSum(0);
            if (fault < 0 && at < size) {
                fault = at;
            }
            return fault;
        }

        private void parseSum(int depth) {
            parseTerm(depth);
            for (int i = 0; i < MOST_BYTES && fault < 0 && (sees('+') || sees('-')); i++) {
                int sign = bytes[at];
                at++;
                parseTerm(depth);
                emitSign(sign);
            }
        }

        private void parseTerm(int depth) {
            parseUnit(depth);
            for (int i = 0; i < MOST_BYTES && fault < 0 && (sees('*') || sees('/')); i++) {
                int sign = bytes[at];
                at++;
                parseUnit(depth);
                emitSign(sign);
            }
        }

        private void parseUnit(int depth) {
            int letter = letterHere();
            if (seesDigit()) {
                parseNumber();
            } else if (letter >= 0) {
                at++;
                emit(Act.FIRST_LETTER - letter);
            } else if (sees('(') && depth < DEEPEST) {
                at++;
                parseBracket(depth + 1);
            } else {
                fault = at;
            }
        }

        private void parseNumber() {
            int value = 0;
            for (int i = 0; i < MOST_DIGITS && seesDigit(); i++) {
                value = value * 10 + bytes[at] - '0';
                at++;
            }
            emit(value);
        }

        private void parseBracket(int depth) {
            parseSum(depth);
            if (fault < 0 && (sees('<') || sees('=') || sees('>'))) {
                int sign = bytes[at];
                at++;
                parseSum(depth);
                emitSign(sign);
            }
            if (fault < 0 && sees(')')) {
                at++;
            } else if (fault < 0) {
                fault = at;
            }
        }

        private boolean sees(int value) {
            return at < size && bytes[at] == value;
        }

        private boolean seesDigit() {
            return at < size && bytes[at] >= '0' && bytes[at] <= '9';
        }

        private int letterHere() {
            for (int i = 0; i < LETTERS.length; i++) {
                if (sees(LETTERS[i])) {
                    return i;
                }
            }
            return -1;
        }

        private void emitSign(int sign) {
            for (int i = 0; i < Act.SIGNS.length; i++) {
                if (Act.SIGNS[i] == sign) {
                    emit(Act.FIRST_SIGN - i);
                }
            }
        }

        private void emit(int step) {
            if (codeSize < MOST_BYTES) {
                code[codeSize] = step;
                codeSize++;
            }
        }
    }

    static final class Sea {
        private static final int FAR = 1000000;

        private final int[] miles = new int[PORTS * PORTS];
        private final int[] least = new int[PORTS];

        int join(int a, int b, int v) {
            int was = miles[a * PORTS + b];
            miles[a * PORTS + b] = v;
            miles[b * PORTS + a] = v;
            return was;
        }

        int way(int from, int to) {
            Arrays.fill(least, FAR);
            least[from] = 0;
            // a least way goes by no port twice, so as many rounds as ports settle it
            for (int round = 1; round < PORTS; round++) {
                shorten();
            }
            return least[to] == FAR ? NONE : least[to];
        }

        private void shorten() {
            for (int a = 0; a < PORTS; a++) {
                for (int b = 0; b < PORTS; b++) {
                    int v = miles[a * PORTS + b];
                    if (v > 0 && least[a] + v < least[b]) {
                        least[b] = least[a] + v;
                    }
                }
            }
        }
    }

    /**
     * The cheapest crew. A way to fill places is one number: its sum of wages above, and below it
     * four bits for each hand in order, so the least number is the least sum and the first way.
     */
    static final class Hiring {
        static final int MOST_HANDS = 80;
        private static final int MOST_OFFERS = 12;
        private static final int PLACES = 8;
        private static final int HAND_BITS = 4;
        private static final int WAGE_SHIFT = PLACES * HAND_BITS;
        private static final long NO_WAY = 1L << 60;
        private static final int[] STEP = {1, 3, 9, 27};

        /** By how many hands of each rank are filled, counted as hands are in the call. */
        private final long[] best = new long[MOST_HANDS + 1];
        private final int[] offers = new int[MOST_OFFERS];
        private int offerCount;
        private final int[] firstPlace = new int[RANKS];
        private int goal;
        private int places;

        void begin(int hands) {
            Arrays.fill(best, NO_WAY);
            best[0] = 0;
            offerCount = 0;
            goal = hands;
            places = 0;
            for (int rank = 0; rank < RANKS; rank++) {
                firstPlace[rank] = places;
                places += handsOf(hands, rank);
            }
        }

        private static int handsOf(int hands, int rank) {
            return hands / STEP[rank] % 3;
        }

        /** Men must be offered by rising numbers. */
        void offer(Man m) {
            if (offerCount >= MOST_OFFERS) {
                return;
            }
            // from the most filled down, so that he is in no way twice
            for (int filled = MOST_HANDS; filled >= 0; filled--) {
                if (best[filled] != NO_WAY) {
                    placeIn(filled, m);
                }
            }
            offers[offerCount] = m.number;
            offerCount++;
        }

        private void placeIn(int filled, Man m) {
            for (int rank = 0; rank < RANKS; rank++) {
                int have = handsOf(filled, rank);
                if (m.wages[rank] > 0 && have < handsOf(goal, rank)) {
                    long number = (long) offerCount << handShift(firstPlace[rank] + have);
                    long way = best[filled] + ((long) m.wages[rank] << WAGE_SHIFT) + number;
                    int next = filled + STEP[rank];
                    best[next] = Math.min(best[next], way);
                }
            }
        }

        private static int handShift(int place) {
            return (PLACES - 1 - place) * HAND_BITS;
        }

        int leastSum() {
            return best[goal] == NO_WAY ? NONE : (int) (best[goal] >> WAGE_SHIFT);
        }

        int hand(int place) {
            if (best[goal] == NO_WAY || place >= places) {
                return NONE;
            }
            int offer = (int) (best[goal] >> handShift(place) & 15);
            return offer < MOST_OFFERS ? offers[offer] : NONE;
        }
    }
}
