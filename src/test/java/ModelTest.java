import java.util.Random;

/** Runs of 512 calls by chance, of fixed seeds: ShipOffice must answer each as PlainOffice does. */
public final class ModelTest {
    private static final int RUNS = 500;
    private static final int CALLS = 512;
    private static final int[] ODD = {-1, -2, -9, Integer.MIN_VALUE, Integer.MAX_VALUE, 10, 60, 200, 3001, 10000, 100000};
    private static final String[] TEXTS = {
        "d", "n*7+l", "(a>20)*s", "s*x", "s/2+d-l", "w/30*(r+1)", "100-l", "((d>3)*50+(n=1)*25)", "20", "5+r", "0-3",
        "99999*99999*99999", "7/0+3", "(((((1)))))", "((((((1))))))", "1+", "(1<2<3)", "12a", "a1", "()", "3>2", "w)",
        "123456", "(w=1", "l+d*n", "x*100", "(s<50)*s+(x=1)*(s>49)*40", "30", "1", "0", "60-10-5", "0-7/2*2", "q", "W"};

    /** Kinds of calls that fill something up: men, voyages, HAPPENINGS, AGREEMENTS, ACTS, FINES, SHORT, the row. */
    private static final int[][] CROWDS = {{2}, {3, 4}, {6, 9, 11}, {13, 13, 16}, {32}, {22}, {27}, {51}};

    private final Random random;
    private final ShipOffice office = new ShipOffice();
    private final PlainOffice plain = new PlainOffice();
    /** What share of the arguments are odd ones, in hundredths. */
    private final int oddness;
    /** How many days go by at most in one call. */
    private final int pace;
    /** The kinds that most calls of this run are of; null in an even run. */
    private final int[] crowd;
    private String call = "";
    private long got;
    private long due;

    private ModelTest(int seed) {
        random = new Random(seed);
        oddness = seed % 4 == 0 ? 10 : 2;
        pace = new int[] {2, 8, 20, 40}[seed / 4 % 4];
        crowd = seed % 5 == 4 ? CROWDS[seed / 5 % CROWDS.length] : null;
    }

    public static void main(String[] args) {
        int wrong = 0;
        for (int seed = 0; seed < RUNS; seed++) {
            if (!new ModelTest(seed).agrees(seed)) wrong++;
        }
        System.out.println(wrong == 0 ? "all runs agree" : wrong + " runs do not agree");
        if (wrong != 0) System.exit(1);
    }

    private boolean agrees(int seed) {
        for (int i = 0; i < CALLS; i++) {
            one(i < 90 ? early(i) : later());
            if (got != due) {
                System.out.println("run " + seed + ", call " + i + ": " + call + " answered " + got + ", due is " + due);
                return false;
            }
        }
        return true;
    }

    /** Men and voyages first, then agreements, so that there is something to happen. */
    private int early(int i) {
        if (i < 20) return i % 4 == 3 ? 3 : 2;
        return new int[] {0, 2, 3, 13, 13, 13, 13, 13, 29, 29, 17, 17, 19, 19, 22, 27}[random.nextInt(16)];
    }

    private int later() {
        boolean crowded = crowd != null && random.nextInt(4) > 0;
        return crowded ? crowd[random.nextInt(crowd.length)] : random.nextInt(56);
    }

    /** What ends a voyage or an agreement is told to nobody mostly: else all runs end early. */
    private int seldom(int number) {
        return crowd == null && random.nextInt(6) > 0 ? -1 : number;
    }

    private int seldomOff(int agreement) {
        return crowd == null && random.nextInt(2) > 0 ? -1 : agreement;
    }

    private int some(int low, int high) {
        if (random.nextInt(100) < oddness) return ODD[random.nextInt(ODD.length)];
        return high < low ? low : low + random.nextInt(high - low + 1);
    }

    private int port() {
        return some(0, random.nextInt(4) == 0 ? 9 : 3);
    }

    private int someMan() {
        return some(0, plain.men.size() - 1);
    }

    private int someVoyage() {
        return some(Math.max(0, plain.voyages.size() - 1 - random.nextInt(9)), plain.voyages.size() - 1);
    }

    private int someAgreement() {
        int n = plain.pacts.size();
        return some(random.nextInt(3) == 0 ? 0 : Math.max(0, n - 12), n - 1);
    }

    private int recent() {
        return some(Math.max(0, plain.now - random.nextInt(3) * pace), plain.now);
    }

    private int known() {
        return random.nextInt(3) > 0 ? plain.now : some(0, plain.now);
    }

    private int day(int known) {
        return random.nextInt(3) == 0 || known < 0 || known > plain.now ? known : some(0, known);
    }

    private void said(String name, int... args) {
        StringBuilder b = new StringBuilder(name).append('(');
        for (int i = 0; i < args.length; i++) b.append(i == 0 ? "" : ", ").append(args[i]);
        call = b.append(')').toString();
    }

    private void gave(long answer, long wanted) {
        got = answer;
        due = wanted;
    }

    private void one(int kind) {
        int a = someAgreement();
        int v = someVoyage();
        int m = someMan();
        int k = known();
        int j = day(k);
        if (kind < 14) tellOne(kind, a, v, m);
        else if (kind < 28) moneyOne(kind, a, k);
        else if (kind < 32) askOne(kind, m);
        else if (kind < 36) textOne();
        else answerOne(kind, a, v, m, j, k);
    }

    private void tellOne(int kind, int a, int v, int m) {
        int p = port();
        int d = recent();
        switch (kind) {
            case 0, 1 -> { int n = some(1, pace); said("days", n); gave(office.days(n), plain.days(n)); }
            case 2 -> {
                int name = some(0, 5);
                int marks = random.nextInt(3) == 0 ? some(0, 99999) : 10000 * some(0, 3) + 100 * some(0, 4) + some(0, 3);
                int born = some(-15000, plain.now);
                said("man", name, marks, born);
                gave(office.man(name, marks, born), plain.man(name, marks, born));
            }
            case 3 -> { int s = some(0, 9); said("voyage", s, p); gave(office.voyage(s, p), plain.voyage(s, p)); }
            case 4 -> {
                v = seldom(v);
                said("ended", v, p);
                gave(office.ended(v, p), plain.ended(v, p));
            }
            case 5, 8 -> { said("sailed", v, d); gave(office.sailed(v, d), plain.sailed(v, d)); }
            case 6 -> { said("heard", v, d); gave(office.heard(v, d), plain.heard(v, d)); }
            case 7 -> {
                v = seldom(v);
                said("lost", v, d);
                gave(office.lost(v, d), plain.lost(v, d));
            }
            case 9 -> { int w = some(0, 2); said("left", a, d, w, p); gave(office.left(a, d, w, p), plain.left(a, d, w, p)); }
            case 10 -> {
                a = seldom(a);
                said("died", a, d);
                gave(office.died(a, d), plain.died(a, d));
            }
            case 11 -> { said("back", a, d); gave(office.back(a, d), plain.back(a, d)); }
            case 12 -> { int q = port(), x = some(0, 900); said("miles", p, q, x); gave(office.miles(p, q, x), plain.miles(p, q, x)); }
            default -> signOne(m, v);
        }
    }

    private void signOne(int m, int v) {
        int wage = some(1, 3000);
        int rank = some(0, 3);
        int paper = random.nextInt(2) == 0 ? -1 : someAgreement();
        said("sign", m, v, wage, rank, paper);
        gave(office.sign(m, v, wage, rank, paper), plain.sign(m, v, wage, rank, paper));
    }

    private void moneyOne(int kind, int a, int k) {
        int i = some(0, a >= 0 && a < plain.pacts.size() ? plain.pacts.get(a).fines.size() - 1 : 2);
        switch (kind) {
            case 14, 15 -> signOne(someMan(), someVoyage());
            case 16 -> { int p = port(); a = seldomOff(a); said("off", a, p); gave(office.off(a, p), plain.off(a, p)); }
            case 17, 18 -> { int s = some(1, 3000); said("advance", a, s); gave(office.advance(a, s), plain.advance(a, s)); }
            case 19, 20 -> { int s = some(1, 900); said("allot", a, s); gave(office.allot(a, s), plain.allot(a, s)); }
            case 21 -> { int s = some(0, 2000); said("sold", a, s); gave(office.sold(a, s), plain.sold(a, s)); }
            case 22, 23 -> {
                int d = recent(), s = some(1, 200);
                boolean r = random.nextBoolean();
                said("fine", a, d, s, r ? 1 : 0);
                gave(office.fine(a, d, s, r), plain.fine(a, d, s, r));
            }
            case 24 -> { said("read", a, i); gave(office.read(a, i), plain.read(a, i)); }
            case 25, 26 -> { said("stands", a, i, k); gave(office.stands(a, i, k), plain.stands(a, i, k)); }
            default -> { int d = some(1, 200), r = some(1, 99); said("rations", a, d, r); gave(office.rations(a, d, r), plain.rations(a, d, r)); }
        }
    }

    private void askOne(int kind, int m) {
        if (kind < 31) {
            int r = some(0, 3), w = random.nextInt(5) == 0 ? some(0, 9999) : some(0, 3);
            said("ask", m, r, w);
            gave(office.ask(m, r, w), plain.ask(m, r, w));
            return;
        }
        int hands = random.nextInt(3) == 0 ? some(0, 80) : some(0, 1) + 3 * some(0, 1) + 9 * some(0, 2);
        int what = some(0, 8);
        said("crew", hands, what);
        gave(office.crew(hands, what), plain.crew(hands, what));
    }

    private void textOne() {
        String text = TEXTS[random.nextInt(TEXTS.length)];
        if (random.nextInt(4) == 0) text = garbled();
        for (int at = 0; at < text.length(); at += 8) {
            int n = Math.min(8, text.length() - at);
            long bytes = 0;
            for (int i = n - 1; i >= 0; i--) bytes = bytes << 8 | text.charAt(at + i);
            if (random.nextInt(20) == 0) n = some(0, 8);
            call = "feed(" + n + ", " + bytes + ")";
            gave(office.feed(n, bytes), plain.feed(n, bytes));
            if (got != due) return;
        }
        int purpose = random.nextInt(10) == 0 ? 0 : some(1, 4);
        int d = random.nextInt(3) > 0 ? plain.now : some(plain.now, plain.now + pace);
        call = "act(" + purpose + ", " + d + ") of " + text;
        gave(office.act(purpose, d), plain.act(purpose, d));
    }

    private String garbled() {
        String signs = "((((()))))+-*/<=>0123456789wradnslx";
        StringBuilder b = new StringBuilder();
        int n = random.nextInt(40);
        for (int i = 0; i < n; i++) b.append(signs.charAt(random.nextInt(signs.length())));
        return random.nextInt(8) == 0 ? b.append((char) random.nextInt(256)).toString() : b.toString();
    }

    private void answerOne(int kind, int a, int v, int m, int j, int k) {
        switch (kind) {
            case 36, 37 -> { said("state", a, j, k); gave(office.state(a, j, k), plain.state(a, j, k)); }
            case 38, 39, 40 -> { said("earns", a, j, k); gave(office.earns(a, j, k), plain.earns(a, j, k)); }
            case 41, 42, 43, 44 -> { said("owed", a, j, k); gave(office.owed(a, j, k), plain.owed(a, j, k)); }
            case 45 -> { int w = some(0, 9); said("agreementOf", a, w); gave(office.agreementOf(a, w), plain.agreementOf(a, w)); }
            case 46 -> { said("aboard", v, j, k); gave(office.aboard(v, j, k), plain.aboard(v, j, k)); }
            case 47 -> { said("group", m); gave(office.group(m), plain.group(m)); }
            case 48, 49 -> { said("borrowed", a); gave(office.borrowed(a), plain.borrowed(a)); }
            case 50 -> { said("home", m); gave(office.home(m), plain.home(m)); }
            case 51 -> { int x = some(0, 50); said("put", x); gave(office.put(x), plain.put(x)); }
            case 52, 53 -> checkOne(v, j, k);
            default -> { int w = some(0, 18); said("count", w); gave(office.count(w), plain.count(w)); }
        }
    }

    /** An account that is mostly right, so that its end is reached. */
    private void checkOne(int v, int j, int k) {
        for (int i = 0; i < plain.pacts.size() && plain.row.size() < 12; i++) {
            boolean askable = j >= 0 && j <= k && k <= plain.now;
            if (plain.pacts.get(i).voyage == v && askable && random.nextInt(15) > 0) {
                int sum = plain.owedOn(i, j, k) + (random.nextInt(15) == 0 ? 1 : 0);
                office.put(sum);
                plain.put(sum);
            }
        }
        said("check", v, j, k);
        gave(office.check(v, j, k), plain.check(v, j, k));
    }
}
