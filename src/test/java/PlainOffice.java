import java.util.ArrayList;
import java.util.List;

/**
 * The document told a second time, as plainly as it can be: day by day, way by way, nothing kept
 * that can be found again. ModelTest holds ShipOffice against it.
 */
final class PlainOffice {
    static final class Told {
        String kind;
        int whose;
        int day;
        int known;
        int way;
        int port;
    }

    static final class Pact {
        int man;
        int voyage;
        int wage;
        int rank;
        int paper;
        int signed;
        int off = -9;
        int note;
        int given = -9;
        int allotment;
        final List<int[]> fines = new ArrayList<>();
        final List<int[]> shorts = new ArrayList<>();
    }

    int now;
    final int[][] miles = new int[10][10];
    final List<int[]> men = new ArrayList<>();
    final List<int[]> asks = new ArrayList<>();
    final List<int[]> voyages = new ArrayList<>();
    final List<Pact> pacts = new ArrayList<>();
    final List<Told> told = new ArrayList<>();
    final List<int[]> acts = new ArrayList<>();
    final List<String> texts = new ArrayList<>();
    String tape = "";
    final List<Integer> row = new ArrayList<>();
    final int[] refusals = new int[7];

    int no(int number) {
        refusals[-number]++;
        return number;
    }

    boolean in(int v, int low, int high) {
        return v >= low && v <= high;
    }

    int days(int n) {
        if (n < 1) return no(-4);
        if ((long) now + n > 3000) return no(-6);
        return now += n;
    }

    int miles(int a, int b, int v) {
        if (!in(a, 0, 9) || !in(b, 0, 9) || a == b) return no(-1);
        if (v < 0) return no(-4);
        if (v > 9999) return no(-6);
        int was = miles[a][b];
        miles[a][b] = miles[b][a] = v;
        return was;
    }

    int man(int name, int marks, int born) {
        if (name < 0 || marks < 0 || born < -30000) return no(-4);
        if (name > 9999 || marks > 99999 || born > now || men.size() == 40) return no(-6);
        men.add(new int[] {name, marks, born});
        asks.add(new int[4]);
        return men.size() - 1;
    }

    int voyage(int ship, int port) {
        if (!in(ship, 0, 9) || !in(port, 0, 9)) return no(-1);
        for (int[] v : voyages) if (v[0] == ship && v[3] == 0) return no(-3);
        if (voyages.size() == 20) return no(-6);
        voyages.add(new int[] {ship, port, now, 0});
        return voyages.size() - 1;
    }

    boolean isVoyage(int v) {
        return in(v, 0, voyages.size() - 1);
    }

    boolean isPact(int a) {
        return in(a, 0, pacts.size() - 1);
    }

    boolean isMan(int m) {
        return in(m, 0, men.size() - 1);
    }

    boolean was(String kind, int whose, int j, int k) {
        for (Told t : told) {
            if (t.kind.equals(kind) && t.whose == whose && t.day <= j && t.known <= k) return true;
        }
        return false;
    }

    int ended(int voyage, int port) {
        if (!isVoyage(voyage) || !in(port, 0, 9)) return no(-1);
        if (voyages.get(voyage)[3] == 1 || was("lost", voyage, now, now)) return no(-3);
        voyages.get(voyage)[3] = 1;
        int n = 0;
        for (int i = 0; i < pacts.size(); i++) {
            if (pacts.get(i).voyage == voyage && goesOn(i)) {
                pacts.get(i).off = now;
                n++;
            }
        }
        return n;
    }

    int tell(String kind, int whose, int day, int way, int port) {
        Told t = new Told();
        t.kind = kind;
        t.whose = whose;
        t.day = day;
        t.known = now;
        t.way = way;
        t.port = port;
        told.add(t);
        return told.size();
    }

    int ofVoyage(String kind, int voyage, int day, boolean once) {
        if (!isVoyage(voyage)) return no(-1);
        if (once && was(kind, voyage, now, now) || voyages.get(voyage)[3] == 1) return no(-3);
        if (day < voyages.get(voyage)[2]) return no(-4);
        if (day > now || told.size() == 200) return no(-6);
        return tell(kind, voyage, day, 0, 0);
    }

    int sailed(int voyage, int day) {
        return ofVoyage("sailed", voyage, day, true);
    }

    int heard(int voyage, int day) {
        return ofVoyage("heard", voyage, day, false);
    }

    int lost(int voyage, int day) {
        return ofVoyage("lost", voyage, day, true);
    }

    int ofPact(String kind, int a, int day, int way, int port) {
        if (!isPact(a) || !in(port, 0, 9)) return no(-1);
        if (!in(way, 0, 2)) return no(-2);
        if (pacts.get(a).off >= 0) return no(-3);
        if (day < pacts.get(a).signed) return no(-4);
        if (day > now || told.size() == 200) return no(-6);
        return tell(kind, a, day, way, port);
    }

    int left(int a, int day, int way, int port) {
        return ofPact("left", a, day, way, port);
    }

    int died(int a, int day) {
        return ofPact("died", a, day, 0, 0);
    }

    int back(int a, int day) {
        return ofPact("back", a, day, 0, 0);
    }

    int feed(int n, long bytes) {
        if (n < 1) return no(-4);
        if (n > 8 || tape.length() + n > 60) return no(-6);
        for (int i = 0; i < n; i++) tape += (char) ((bytes >>> (8 * i)) & 0xff);
        return tape.length();
    }

    int act(int purpose, int day) {
        if (!in(purpose, 0, 4)) return no(-2);
        if (day < now) return no(-4);
        if (day > 3000 || acts.size() == 30) return no(-6);
        String text = tape;
        tape = "";
        int fault = faultOf(text);
        if (fault >= 0) return -20 - fault;
        acts.add(new int[] {purpose, day});
        texts.add(text);
        return acts.size();
    }

    /** By prefixes: a byte can stand if some text begins with all up to it. */
    static int faultOf(String text) {
        int depth = 0;
        int digits = 0;
        boolean wantsUnit = true;
        boolean[] compared = new boolean[7];
        for (int i = 0; i < text.length(); i++) {
            char c = text.charAt(i);
            if (wantsUnit) {
                if (c == '(') {
                    if (depth == 5) return i;
                    depth++;
                    compared[depth] = false;
                } else if (c >= '0' && c <= '9') {
                    digits = 1;
                    wantsUnit = false;
                } else if ("wradnslx".indexOf(c) >= 0) {
                    digits = 0;
                    wantsUnit = false;
                } else return i;
            } else if (c >= '0' && c <= '9') {
                if (digits == 0 || digits == 5) return i;
                digits++;
            } else if ("+-*/".indexOf(c) >= 0) {
                wantsUnit = true;
            } else if ("<=>".indexOf(c) >= 0) {
                if (depth == 0 || compared[depth]) return i;
                compared[depth] = true;
                wantsUnit = true;
            } else if (c == ')') {
                if (depth == 0) return i;
                depth--;
                digits = 0;
            } else return i;
        }
        return wantsUnit || depth > 0 ? text.length() : -1;
    }

    /** Reads and reckons in one go; the text is known to have no fault. */
    static final class Reckoner {
        final String text;
        final int[] letters;
        int at;

        Reckoner(String text, int[] letters) {
            this.text = text;
            this.letters = letters;
        }

        char here() {
            return at < text.length() ? text.charAt(at) : 0;
        }

        static long hold(long v) {
            return Math.max(-1000000000L, Math.min(1000000000L, v));
        }

        long sum() {
            long v = term();
            while (here() == '+' || here() == '-') {
                boolean more = text.charAt(at++) == '+';
                long w = term();
                v = hold(more ? v + w : v - w);
            }
            return v;
        }

        long term() {
            long v = unit();
            while (here() == '*' || here() == '/') {
                boolean times = text.charAt(at++) == '*';
                long w = unit();
                v = times ? hold(v * w) : w == 0 ? 0 : v / w;
            }
            return v;
        }

        long unit() {
            char c = here();
            if (c == '(') {
                at++;
                long v = sum();
                if (here() != ')') {
                    char sign = text.charAt(at++);
                    long w = sum();
                    v = (sign == '<' ? v < w : sign == '=' ? v == w : v > w) ? 1 : 0;
                }
                at++;
                return v;
            }
            if (c >= '0' && c <= '9') {
                long v = 0;
                while (here() >= '0' && here() <= '9') v = v * 10 + (text.charAt(at++) - '0');
                return v;
            }
            at++;
            return letters["wradnslx".indexOf(c)];
        }
    }

    int worth(int purpose, int day, int[] letters) {
        String text = new String[] {"1", "s", "100", "50", "90"}[purpose];
        int from = -1;
        for (int i = 0; i < acts.size(); i++) {
            int[] a = acts.get(i);
            if (a[0] == purpose && a[1] <= day && a[1] >= from) {
                from = a[1];
                text = texts.get(i);
            }
        }
        return (int) new Reckoner(text, letters).sum();
    }

    int worthOf(int purpose, int a, int day, int k, int s, int x) {
        Pact p = pacts.get(a);
        int aboardDays = 0;
        for (int t = p.signed; t <= day; t++) if (stateOn(a, t, k) == 1) aboardDays++;
        int last = lastHeard(p.voyage, day, k);
        return worth(purpose, day, new int[] {p.wage, p.rank, (day - men.get(p.man)[2]) / 365,
            aboardDays, aboardOn(p.voyage, day, k), s, last < 0 ? 0 : day - last, x});
    }

    boolean goesOn(int a) {
        return pacts.get(a).off < 0 && !was("died", a, now, now) && !was("lost", pacts.get(a).voyage, now, now);
    }

    boolean isFree(int man) {
        for (int i = 0; i < pacts.size(); i++) if (pacts.get(i).man == man && goesOn(i)) return false;
        return true;
    }

    int sign(int man, int voyage, int wage, int rank, int paper) {
        if (!isMan(man) || !isVoyage(voyage) || paper != -1 && !isPact(paper)) return no(-1);
        if (wage < 1 || rank < 0) return no(-4);
        if (wage > 9999 || rank > 3 || pacts.size() == 60) return no(-6);
        if (voyages.get(voyage)[3] == 1 || was("sailed", voyage, now, now) || was("lost", voyage, now, now)) return no(-3);
        if (!isFree(man)) return no(-3);
        if (paper >= 0 && pacts.get(paper).off < 0) return no(-3);
        int[] letters = {wage, rank, (now - men.get(man)[2]) / 365, 0, 0, 0, 0, 0};
        if (worth(0, now, letters) <= 0) return no(-3);
        Pact p = new Pact();
        p.man = man;
        p.voyage = voyage;
        p.wage = wage;
        p.rank = rank;
        p.paper = paper;
        p.signed = now;
        pacts.add(p);
        return pacts.size() - 1;
    }

    int off(int a, int port) {
        if (!isPact(a) || !in(port, 0, 9)) return no(-1);
        if (!goesOn(a)) return no(-3);
        pacts.get(a).off = now;
        return 1;
    }

    int lastHeard(int voyage, int j, int k) {
        for (int t = j; t >= 0; t--) {
            for (Told h : told) {
                boolean tidings = h.kind.equals("heard") || h.kind.equals("sailed");
                if (tidings && h.whose == voyage && h.day == t && h.known <= k) return t;
            }
        }
        return -1;
    }

    Told lastMove(int a, int j, int k) {
        for (int t = j; t >= 0; t--) {
            for (int i = told.size() - 1; i >= 0; i--) {
                Told h = told.get(i);
                boolean moves = h.kind.equals("left") || h.kind.equals("back");
                if (moves && h.whose == a && h.day == t && h.known <= k) return h;
            }
        }
        return null;
    }

    int stateOn(int a, int j, int k) {
        Pact p = pacts.get(a);
        if (j < p.signed) return -9;
        if (was("died", a, j, k) || was("lost", p.voyage, j, k)) return 4;
        if (p.off >= 0 && p.off <= j && p.off <= k) return 5;
        Told move = lastMove(a, j, k);
        if (move != null && move.kind.equals("left")) return 3;
        if (!was("sailed", p.voyage, j, k)) return 0;
        int from = j - worth(4, j, new int[8]);
        for (Told h : told) {
            boolean tidings = h.kind.equals("heard") || h.kind.equals("sailed");
            if (tidings && h.whose == p.voyage && h.known <= k && h.day >= from && h.day <= j) return 1;
        }
        return 2;
    }

    int asked(boolean there, int j, int k) {
        if (!there) return -1;
        if (j < 0 || k < 0) return -4;
        return j > k || k > now ? -3 : 0;
    }

    int state(int a, int j, int k) {
        int no = asked(isPact(a), j, k);
        return no != 0 ? no(no) : stateOn(a, j, k);
    }

    int earnsOn(int a, int j, int k) {
        Pact p = pacts.get(a);
        boolean missing = stateOn(a, j, k) == 2;
        int n = 0;
        for (int t = p.signed; t <= j; t++) {
            int s = stateOn(a, t, k);
            if (s >= 0 && s <= 2 && !(missing && t > lastHeard(p.voyage, j, k))) n++;
        }
        return n;
    }

    int earns(int a, int j, int k) {
        int no = asked(isPact(a), j, k);
        return no != 0 ? no(no) : earnsOn(a, j, k);
    }

    int advance(int a, int sum) {
        if (!isPact(a)) return no(-1);
        if (pacts.get(a).note > 0 || stateOn(a, now, now) != 0) return no(-3);
        if (sum < 1) return no(-4);
        if (sum > 99999) return no(-6);
        pacts.get(a).note = sum;
        return 1;
    }

    int sold(int a, int given) {
        if (!isPact(a)) return no(-1);
        Pact p = pacts.get(a);
        if (p.note == 0 || p.given != -9) return no(-3);
        if (given <= 0) return no(-4);
        if (given >= p.note) return no(-6);
        p.given = given;
        return p.note - given;
    }

    int allot(int a, int sum) {
        if (!isPact(a)) return no(-1);
        Pact p = pacts.get(a);
        if (p.allotment > 0 || !goesOn(a)) return no(-3);
        if (sum < 1) return no(-4);
        if (sum > 9999 || sum > (long) p.wage * worthOf(3, a, now, now, sum, 0) / 100) return no(-6);
        p.allotment = sum;
        return 1;
    }

    int fine(int a, int day, int sum, boolean read) {
        if (!isPact(a)) return no(-1);
        Pact p = pacts.get(a);
        if (p.off >= 0) return no(-3);
        if (day < p.signed || sum < 1) return no(-4);
        if (day > now || sum > 9999 || p.fines.size() == 6) return no(-6);
        p.fines.add(new int[] {day, sum, read ? 1 : 0});
        return p.fines.size();
    }

    int read(int a, int i) {
        if (!isPact(a) || !in(i, 0, pacts.get(a).fines.size() - 1)) return no(-1);
        int[] f = pacts.get(a).fines.get(i);
        if (f[2] == 1 || f[0] != now) return no(-3);
        f[2] = 1;
        return 1;
    }

    int standing(int a, int[] f, int k) {
        return Math.max(0, Math.min(f[1], worthOf(1, a, f[0], k, f[1], f[2])));
    }

    int stands(int a, int i, int k) {
        if (!isPact(a) || !in(i, 0, pacts.get(a).fines.size() - 1)) return no(-1);
        if (k < 0) return no(-4);
        if (k > now) return no(-6);
        return standing(a, pacts.get(a).fines.get(i), k);
    }

    int rations(int a, int days, int rate) {
        if (!isPact(a)) return no(-1);
        if (days < 1 || rate < 1) return no(-4);
        long all = days;
        for (int[] s : pacts.get(a).shorts) all += s[1];
        if (all > 999 || rate > 99 || pacts.get(a).shorts.size() == 20) return no(-6);
        pacts.get(a).shorts.add(new int[] {now, days, rate});
        return (int) all;
    }

    int owedOn(int a, int j, int k) {
        Pact p = pacts.get(a);
        if (j < p.signed) return 0;
        long sum = (long) p.wage * earnsOn(a, j, k) / 30;
        for (Told h : told) {
            if (h.kind.equals("sailed") && h.whose == p.voyage && h.known <= k) {
                if (h.day + 3 <= j && stateOn(a, h.day + 3, k) == 1) sum -= p.note;
                for (int t = h.day + 1; t <= j; t++) {
                    if ((t - h.day) % 30 == 0 && stateOn(a, t, k) == 1) sum -= p.allotment;
                }
            }
        }
        for (int[] f : p.fines) if (f[0] <= j) sum -= standing(a, f, k);
        for (int[] s : p.shorts) if (s[0] <= k) sum += s[1] * s[2];
        if (sum > 0 && stateOn(a, j, k) == 3 && lastMove(a, j, k).way == 0) {
            sum -= sum * Math.max(0, Math.min(100, worthOf(2, a, j, k, 0, 0))) / 100;
        }
        return (int) sum;
    }

    int owed(int a, int j, int k) {
        int no = asked(isPact(a), j, k);
        return no != 0 ? 1000000000 - no(no) : owedOn(a, j, k);
    }

    int agreementOf(int a, int what) {
        if (!isPact(a)) return no(-1);
        if (!in(what, 0, 9)) return no(-2);
        Pact p = pacts.get(a);
        return new int[] {p.man, p.voyage, p.wage, p.rank, p.signed, p.off, p.note, p.given, p.allotment,
            goesOn(a) ? 1 : 0}[what];
    }

    int aboardOn(int voyage, int j, int k) {
        int n = 0;
        for (int i = 0; i < pacts.size(); i++) if (pacts.get(i).voyage == voyage && stateOn(i, j, k) == 1) n++;
        return n;
    }

    int aboard(int voyage, int j, int k) {
        int no = asked(isVoyage(voyage), j, k);
        return no != 0 ? no(no) : aboardOn(voyage, j, k);
    }

    boolean alike(int a, int b) {
        String one = String.format("%05d", men.get(a)[1]);
        String other = String.format("%05d", men.get(b)[1]);
        int apart = 0;
        for (int i = 0; i < 5; i++) if (one.charAt(i) != other.charAt(i)) apart++;
        return apart == 0 || apart == 1 && men.get(a)[0] == men.get(b)[0];
    }

    int groupOf(int man) {
        boolean[] mine = new boolean[men.size()];
        List<Integer> open = new ArrayList<>(List.of(man));
        int least = man;
        while (!open.isEmpty()) {
            int m = open.remove(open.size() - 1);
            mine[m] = true;
            least = Math.min(least, m);
            for (int i = 0; i < men.size(); i++) if (!mine[i] && alike(m, i)) open.add(i);
        }
        return least;
    }

    int group(int man) {
        return isMan(man) ? groupOf(man) : no(-1);
    }

    boolean runs(Pact p, int day) {
        return day >= p.signed && day <= (p.off >= 0 ? p.off : now);
    }

    int borrowed(int a) {
        if (!isPact(a)) return no(-1);
        Pact p = pacts.get(a);
        if (p.paper < 0) return 0;
        if (groupOf(p.man) != groupOf(pacts.get(p.paper).man)) return 1;
        for (int i = 0; i < pacts.size(); i++) {
            if (i == a || pacts.get(i).paper != p.paper) continue;
            for (int t = 0; t <= now; t++) if (runs(p, t) && runs(pacts.get(i), t)) return 1;
        }
        return 0;
    }

    int home(int man) {
        if (!isMan(man)) return no(-1);
        for (int i = 0; i < pacts.size(); i++) {
            if (pacts.get(i).man != man || stateOn(i, now, now) != 3) continue;
            Told h = lastMove(i, now, now);
            if (h.way != 1) continue;
            int[][] d = new int[10][10];
            for (int a = 0; a < 10; a++) {
                for (int b = 0; b < 10; b++) d[a][b] = a == b ? 0 : miles[a][b] > 0 ? miles[a][b] : 99999999;
            }
            for (int c = 0; c < 10; c++) {
                for (int a = 0; a < 10; a++) {
                    for (int b = 0; b < 10; b++) d[a][b] = Math.min(d[a][b], d[a][c] + d[c][b]);
                }
            }
            int least = d[h.port][voyages.get(pacts.get(i).voyage)[1]];
            return least >= 99999999 ? -9 : least;
        }
        return no(-3);
    }

    int ask(int man, int rank, int wage) {
        if (!isMan(man)) return no(-1);
        if (rank < 0 || wage < 0) return no(-4);
        if (rank > 3 || wage > 9999) return no(-6);
        int was = asks.get(man)[rank];
        asks.get(man)[rank] = wage;
        return was;
    }

    boolean asking(int man) {
        int[] w = asks.get(man);
        return w[0] + w[1] + w[2] + w[3] > 0;
    }

    /** All ways in their order; a later one must be below the best. */
    void tryWays(List<Integer> ranks, List<Integer> who, List<Integer> taken, int sum, int[] best, List<Integer> bestWay) {
        int at = taken.size();
        if (best[0] >= 0 && sum >= best[0]) return;
        if (at == ranks.size()) {
            best[0] = sum;
            bestWay.clear();
            bestWay.addAll(taken);
            return;
        }
        for (int m : who) {
            boolean rising = at == 0 || !ranks.get(at - 1).equals(ranks.get(at)) || taken.get(at - 1) < m;
            int wage = asks.get(m)[ranks.get(at)];
            if (!rising || wage == 0 || taken.contains(m)) continue;
            taken.add(m);
            tryWays(ranks, who, taken, sum + wage, best, bestWay);
            taken.remove(at);
        }
    }

    int crew(int hands, int what) {
        if (hands < 0) return no(-4);
        if (hands > 80) return no(-6);
        if (!in(what, 0, 8)) return no(-2);
        List<Integer> ranks = new ArrayList<>();
        for (int r = 0, h = hands; r < 4; r++, h /= 3) for (int i = 0; i < h % 3; i++) ranks.add(r);
        List<Integer> who = new ArrayList<>();
        for (int m = 0; m < men.size() && who.size() < 12; m++) if (asking(m) && isFree(m)) who.add(m);
        int[] best = {-9};
        List<Integer> way = new ArrayList<>();
        tryWays(ranks, who, new ArrayList<>(), 0, best, way);
        return what == 0 ? best[0] : what - 1 < way.size() ? way.get(what - 1) : -9;
    }

    int put(int v) {
        if (row.size() == 12) return no(-6);
        row.add(v);
        return row.size();
    }

    int check(int voyage, int j, int k) {
        int no = asked(isVoyage(voyage), j, k);
        if (no != 0) return no(no);
        List<Integer> due = new ArrayList<>();
        for (int i = 0; i < pacts.size(); i++) if (pacts.get(i).voyage == voyage) due.add(owedOn(i, j, k));
        List<Integer> had = new ArrayList<>(row);
        row.clear();
        for (int i = 0; i < Math.max(due.size(), had.size()); i++) {
            if (i >= due.size() || i >= had.size() || !due.get(i).equals(had.get(i))) return i;
        }
        return -9;
    }

    int count(int what) {
        int n = 0;
        switch (what) {
            case 0: return now;
            case 1: return men.size();
            case 2: return voyages.size();
            case 3:
                for (int[] v : voyages) n += 1 - v[3];
                return n;
            case 4: return pacts.size();
            case 5:
                for (int i = 0; i < pacts.size(); i++) n += goesOn(i) ? 1 : 0;
                return n;
            case 6: return told.size();
            case 7: return acts.size();
            case 8: return tape.length();
            case 9: return row.size();
            case 17:
                for (int i = 0; i < men.size(); i++) n += asking(i) ? 1 : 0;
                return n;
            default: return in(what, 11, 16) ? refusals[what - 10] : -9;
        }
    }
}
