import java.util.ArrayList;
import java.util.Arrays;
import java.util.List;

/**
 * The document once more, as plainly as can be and without thrift: every thought is a copy of the
 * whole town, every best ACT is found by trying all. ModelTest holds SixStroke against it.
 */
public final class PlainStroke {
    private static final int NOTHING = -2_000_000_000;
    private static final List<String> WAYS = List.of("eat", "match", "league", "hide", "work", "best");
    private static final List<String> GOES = List.of("well", "shared", "burnt");

    private static final class Fault extends RuntimeException {
        private static final long serialVersionUID = 1L;
        final int kind;
        final int place;

        Fault(int kind, int place) {
            this.kind = kind;
            this.place = place;
        }
    }

    private static final class Man {
        int has, hidden, way, arg, good, brings, tires, worth, eats, dulls;

        Man copy() {
            Man m = new Man();
            m.has = has;
            m.hidden = hidden;
            m.way = way;
            m.arg = arg;
            m.good = good;
            m.brings = brings;
            m.tires = tires;
            m.worth = worth;
            m.eats = eats;
            m.dulls = dulls;
            return m;
        }

        int shown() {
            return has - hidden;
        }

        int joy(int e) {
            int sum = 0;
            for (int i = 0; i < e; i++) {
                sum += Math.max(0, eats - i * dulls);
            }
            return sum;
        }
    }

    private static final class World {
        int steps, lines, over, ties = 2, goes, found, well, days;
        long x;
        boolean least;
        boolean lawless;
        List<Man> men = new ArrayList<>();
        List<int[]> loans = new ArrayList<>();
        int[][] within = new int[8][8];
        int idle;
        int[] lostToday = new int[8];

        World() {
            for (int[] w : within) {
                Arrays.fill(w, 1);
            }
        }

        World copy() {
            World w = new World();
            w.steps = steps;
            w.lines = lines;
            w.over = over;
            w.ties = ties;
            w.goes = goes;
            w.found = found;
            w.well = well;
            w.days = days;
            w.x = x;
            w.least = least;
            w.lawless = lawless;
            for (Man m : men) {
                w.men.add(m.copy());
            }
            for (int[] l : loans) {
                w.loans.add(l.clone());
            }
            for (int p = 0; p < 8; p++) {
                w.within[p] = within[p].clone();
            }
            return w;
        }

        void gets(int p, int n) {
            Man m = men.get(p);
            m.has = Math.min(steps, m.has + n);
            if (m.has < m.hidden) {
                m.hidden = m.has;
            }
        }

        int most() {
            return men.stream().mapToInt(Man::shown).max().orElse(0);
        }

        int next() {
            int most = most();
            return men.stream().mapToInt(Man::shown).filter(s -> s < most).max().orElse(0);
        }

        int[] losses() {
            int[] losses = new int[men.size()];
            int most = most();
            long many = men.stream().filter(m -> m.shown() == most).count();
            for (int p = 0; p < losses.length; p++) {
                if (many < ties && men.get(p).shown() == most) {
                    losses[p] = Math.max(0, most - (next() + over));
                }
            }
            return losses;
        }

        int strike(boolean real) {
            int[] losses = losses();
            int most = most();
            int lost = Arrays.stream(losses).sum();
            List<Integer> others = new ArrayList<>();
            for (int p = 0; p < men.size(); p++) {
                if (men.get(p).shown() != most) {
                    others.add(p);
                }
            }
            for (int p = 0; p < men.size(); p++) {
                gets(p, -losses[p]);
            }
            if (goes == 0 || goes == 1 && others.isEmpty()) {
                well += lost;
            } else if (goes == 1) {
                for (int p : others) {
                    gets(p, lost / others.size());
                }
                well += lost % others.size();
            }
            if (least) {
                int low = men.stream().mapToInt(Man::shown).min().orElse(0);
                long lows = men.stream().filter(m -> m.shown() == low).count();
                int above = men.stream().mapToInt(Man::shown).filter(s -> s > low).min().orElse(-1);
                if (lows == 1 && above >= 0) {
                    for (int p = 0; p < men.size(); p++) {
                        if (men.get(p).shown() == low) {
                            int n = Math.min(well, above - low);
                            well -= n;
                            gets(p, n);
                            break;
                        }
                    }
                }
            }
            if (real) {
                afterwards();
            }
            return lost;
        }

        void afterwards() {
            for (Man m : men) {
                if (m.hidden > 0 && found > 0) {
                    x = (1103515245L * x + 12345) & 0x7fffffffL;
                    if ((x >> 16) % 100 < found) {
                        well += m.hidden;
                        m.has -= m.hidden;
                        m.hidden = 0;
                    }
                }
            }
            for (int[] l : loans) {
                int n = Math.min(l[2], men.get(l[1]).has);
                gets(l[1], -n);
                gets(l[0], n);
            }
            loans.clear();
        }

        int seen(int p, int q) {
            return men.get(q).shown() / within[p][q] * within[p][q];
        }

        int top(int p) {
            int top = 0;
            for (int q = 0; q < men.size(); q++) {
                if (q != p && seen(p, q) > top) {
                    top = seen(p, q);
                }
            }
            return top;
        }

        /** 0, -2 or -5. */
        int can(long p, long work, long eat, long give, long to) {
            if (p < 0 || p >= men.size() || work != 0 && work != 1 || eat < 0 || give < 0) {
                return -2;
            }
            if (give == 0 && to != -1) {
                return -2;
            }
            if (give > 0 && (to < 0 || to >= men.size() || to == p)) {
                return -2;
            }
            Man m = men.get((int) p);
            long has = Math.min(steps, m.has + work * m.brings);
            return eat <= has && give <= has && eat + give <= has ? 0 : -5;
        }

        int act(int p, int work, int eat, int give, int to) {
            Man m = men.get(p);
            if (work == 1) {
                gets(p, m.brings);
            }
            gets(p, -eat);
            if (give > 0) {
                gets(p, -give);
                gets(to, give);
            }
            return m.joy(eat) - work * m.tires;
        }

        World asSeenBy(int p) {
            World w = copy();
            for (int q = 0; q < men.size(); q++) {
                if (q != p) {
                    w.men.get(q).has = seen(p, q);
                    w.men.get(q).hidden = 0;
                }
            }
            return w;
        }

        int value(int p, int work, int eat, int give, int to) {
            World w = asSeenBy(p);
            int v = w.act(p, work, eat, give, to);
            if (!lawless) {
                w.strike(false);
            }
            return v + w.men.get(p).worth * w.men.get(p).has;
        }

        List<int[]> acts(int p, int work) {
            List<int[]> list = new ArrayList<>();
            for (int eat = 0; can(p, work, eat, 0, -1) == 0; eat++) {
                list.add(new int[] {work, eat, 0, -1});
                for (int give = 1; give <= 40; give++) {
                    for (int to = 0; to < men.size(); to++) {
                        if (can(p, work, eat, give, to) == 0) {
                            list.add(new int[] {work, eat, give, to});
                        }
                    }
                }
            }
            return list;
        }

        /** VALUE, work, eaten, given, to whom. */
        int[] best(int p) {
            int[] best = null;
            List<int[]> all = acts(p, 1);
            all.addAll(acts(p, 0));
            for (int[] a : all) {
                int v = value(p, a[0], a[1], a[2], a[3]);
                if (best == null || v > best[0]) {
                    best = new int[] {v, a[0], a[1], a[2], a[3]};
                }
            }
            return best;
        }

        boolean restless(int p) {
            int still = value(p, 0, 0, 0, -1);
            for (int[] a : acts(p, 0)) {
                if (value(p, a[0], a[1], a[2], a[3]) > still) {
                    return true;
                }
            }
            return false;
        }

        /** One DAY: what was LOST. */
        int day() {
            int[] joys = new int[men.size()];
            idle = 0;
            for (int p = 0; p < men.size(); p++) {
                Man m = men.get(p);
                if (m.way == 5) {
                    int[] b = best(p);
                    joys[p] = act(p, b[1], b[2], b[3], b[4]);
                    idle += 1 - b[1];
                    continue;
                }
                joys[p] = act(p, 1, 0, 0, -1);
                if (m.way == 0 && m.shown() > top(p)) {
                    joys[p] += act(p, 0, m.shown() - top(p), 0, -1);
                } else if (m.way == 1 && m.shown() > top(p) && men.size() > 1) {
                    int q = 0;
                    while (q == p || seen(p, q) != top(p)) {
                        q++;
                    }
                    act(p, 0, 0, (m.shown() - top(p)) / 2, q);
                } else if (m.way == 2 && m.arg < men.size() && m.arg != p
                        && men.get(m.arg).shown() < m.shown()) {
                    act(p, 0, 0, (m.shown() - men.get(m.arg).shown()) / 2, m.arg);
                } else if (m.way == 3) {
                    m.hidden = Math.min(m.has, m.arg);
                }
            }
            int lost = 0;
            Arrays.fill(lostToday, 0);
            if (!lawless) {
                System.arraycopy(losses(), 0, lostToday, 0, men.size());
                lost = strike(true);
            }
            for (int p = 0; p < men.size(); p++) {
                men.get(p).good += men.get(p).worth * men.get(p).has + joys[p];
            }
            days++;
            return lost;
        }

        int spread() {
            int sum = 0;
            for (Man a : men) {
                for (Man b : men) {
                    sum += Math.max(0, a.has - b.has);
                }
            }
            return sum;
        }

        void turn(int p, int way, World own) {
            Man m = own.men.get(p);
            int arg = way == m.way ? m.arg : way == 3 ? 3 : 0;
            men.get(p).way = way;
            men.get(p).arg = arg;
        }
    }

    private byte[] tape = new byte[0];
    private World w = new World();
    private int faultKind = 0;
    private int faultPlace = -1;
    private final World[] images = new World[3];
    private final long[][] rows = new long[4][];
    private final int[] widths = new int[4];

    // reading

    private static final class Token {
        final String text;
        final int place;

        Token(String text, int place) {
            this.text = text;
            this.place = place;
        }

        boolean isNumber() {
            return text.matches("[0-9]+");
        }
    }

    private List<Token> tokens() {
        List<Token> list = new ArrayList<>();
        int i = 0;
        while (i < tape.length) {
            char c = (char) (tape[i] & 255);
            int from = i++;
            if (c == ' ' || c == '\n') {
                continue;
            }
            String set = c >= 'a' && c <= 'z' ? "[a-z]" : c >= '0' && c <= '9' ? "[0-9]" : "";
            while (!set.isEmpty() && i < tape.length && String.valueOf((char) (tape[i] & 255)).matches(set)) {
                i++;
            }
            StringBuilder b = new StringBuilder();
            for (int k = from; k < i; k++) {
                b.append((char) (tape[k] & 255));
            }
            list.add(new Token(b.toString(), from));
        }
        list.add(new Token("", tape.length));
        return list;
    }

    private final class Parse {
        final List<Token> list = tokens();
        final World made = new World();
        int at = 0;
        boolean law;
        boolean found;
        int sees;

        Token now() {
            return list.get(at);
        }

        void need(boolean ok, int kind) {
            if (!ok) {
                throw new Fault(kind, now().place);
            }
        }

        void word(String s) {
            need(now().text.equals(s), 1);
            at++;
        }

        int number(int low, int high) {
            need(now().isNumber(), 1);
            String s = now().text.replaceFirst("^0+(?=.)", "");
            need(s.length() < 6, 2);
            int n = Integer.parseInt(s);
            need(n >= low && n <= high, 2);
            at++;
            return n;
        }

        int named(String s, int low, int high) {
            word(s);
            return number(low, high);
        }

        World all() {
            while (!now().text.isEmpty()) {
                line();
                word(";");
                made.lines++;
            }
            return made;
        }

        void line() {
            if (made.lines == 0) {
                word("town");
                made.steps = named("steps", 5, 30);
                return;
            }
            switch (now().text) {
                case "law":
                    need(!law, 2);
                    law = true;
                    at++;
                    made.over = named("over", 0, 30);
                    made.ties = named("ties", 2, 4);
                    word("goes");
                    made.goes = GOES.indexOf(now().text);
                    need(made.goes >= 0, 1);
                    at++;
                    made.least = now().text.equals("least");
                    at += made.least ? 1 : 0;
                    break;
                case "found":
                    need(!found, 2);
                    found = true;
                    at++;
                    made.found = number(0, 100);
                    break;
                case "sees":
                    need(sees++ < 12, 3);
                    at++;
                    int p = number(0, made.men.size() - 1);
                    int place = now().place;
                    int q = number(0, made.men.size() - 1);
                    if (p == q) {
                        throw new Fault(2, place);
                    }
                    made.within[p][q] = named("within", 1, 30);
                    break;
                case "person":
                    need(made.men.size() < 8, 3);
                    at++;
                    man();
                    break;
                default:
                    need(false, 1);
            }
        }

        void man() {
            Man m = new Man();
            m.has = named("has", 0, made.steps);
            m.brings = named("brings", 0, 9);
            m.tires = named("tires", 0, 99);
            m.worth = named("worth", 0, 99);
            m.eats = named("eats", 0, 99);
            m.dulls = named("dulls", 0, 99);
            m.way = WAYS.indexOf(now().text);
            need(m.way >= 0, 1);
            at++;
            if (m.way == 2) {
                m.arg = number(0, 7);
            } else if (m.way == 3) {
                m.arg = number(0, 30);
            }
            made.men.add(m);
        }
    }

    // the face

    public int feed(int a, int b, int c, int d, int e) {
        if (tape.length + 20 > 1600) {
            return -1;
        }
        byte[] more = Arrays.copyOf(tape, tape.length + 20);
        int[] all = {a, b, c, d, e};
        for (int i = 0; i < 20; i++) {
            more[tape.length + i] = (byte) (all[i / 4] >>> (24 - 8 * (i % 4)));
        }
        tape = more;
        return tape.length;
    }

    public int end(int n) {
        if (n < 0 || n > tape.length) {
            return -1;
        }
        tape = Arrays.copyOf(tape, n);
        return n;
    }

    public int town() {
        try {
            w = new Parse().all();
        } catch (Fault f) {
            faultKind = f.kind;
            faultPlace = f.place;
            return -4;
        }
        faultKind = 0;
        faultPlace = -1;
        tape = new byte[0];
        return w.lines;
    }

    public int fault(int what) {
        return what == 0 ? faultKind : what == 1 ? faultPlace : -1;
    }

    private boolean is(int p) {
        return p >= 0 && p < w.men.size();
    }

    private boolean two(int p, int q) {
        return is(p) && is(q) && p != q;
    }

    private static boolean in(int n, int low, int high) {
        return n >= low && n <= high;
    }

    private boolean nobody() {
        return w.men.isEmpty();
    }

    public int person(int p, int what) {
        if (!is(p) || !in(what, 0, 3)) {
            return -2;
        }
        Man m = w.men.get(p);
        return new int[] {m.has, m.hidden, m.way, m.good}[what];
    }

    public int have(int p, int n) {
        if (!is(p) || !in(n, 0, w.steps)) {
            return -2;
        }
        int was = w.men.get(p).has;
        w.gets(p, n - was);
        return was;
    }

    public int hide(int p, int n) {
        if (!is(p) || !in(n, 0, 30)) {
            return -2;
        }
        return w.men.get(p).hidden = Math.min(n, w.men.get(p).has);
    }

    public int seen(int p, int q) {
        return two(p, q) ? w.seen(p, q) : -2;
    }

    public int sight(int p, int q, int within) {
        if (!two(p, q) || !in(within, 1, 30)) {
            return -2;
        }
        int was = w.within[p][q];
        w.within[p][q] = within;
        return was;
    }

    public int tops() {
        int bits = 0;
        for (int p = 0; p < w.men.size(); p++) {
            bits |= w.men.get(p).shown() == w.most() ? 1 << p : 0;
        }
        return nobody() ? -2 : bits;
    }

    public int next() {
        return nobody() ? -2 : w.next();
    }

    public int loses(int p) {
        return is(p) ? w.losses()[p] : -2;
    }

    public int stroke() {
        return nobody() ? -2 : w.strike(true);
    }

    public int act(int p, int work, int eat, int give, int to) {
        int can = w.can(p, work, eat, give, to);
        if (can != 0) {
            return can;
        }
        w.men.get(p).good += w.act(p, work, eat, give, to);
        return w.men.get(p).has;
    }

    public int judge(int slot) {
        if (!in(slot, 0, 3)) {
            return -2;
        }
        if (rows[slot] == null) {
            return -6;
        }
        World t = w.copy();
        int i = 0;
        long[] r = rows[slot];
        while (i + 5 <= r.length && t.can(r[i], r[i + 1], r[i + 2], r[i + 3], r[i + 4]) == 0) {
            t.act((int) r[i], (int) r[i + 1], (int) r[i + 2], (int) r[i + 3], (int) r[i + 4]);
            i += 5;
        }
        return i / 5;
    }

    private boolean days(int n) {
        return in(n, 1, 30) && !nobody();
    }

    private static int days(World t, int n) {
        int lost = 0;
        for (int i = 0; i < n; i++) {
            lost += t.day();
        }
        return lost;
    }

    public int run(int n) {
        return days(n) ? days(w, n) : -2;
    }

    public int value(int p, int work, int eat, int give, int to) {
        return w.can(p, work, eat, give, to) == 0 ? w.value(p, work, eat, give, to) : NOTHING;
    }

    public int best(int p, int what) {
        if (!is(p)) {
            return what == 0 ? NOTHING : -2;
        }
        return in(what, 0, 4) ? w.best(p)[what] : -2;
    }

    private World handed(int p, int to, int n) {
        World t = w.copy();
        t.act(p, 0, 0, n, to);
        return t;
    }

    public int gift(int p, int to) {
        if (!two(p, to)) {
            return -2;
        }
        for (int n = 0; n <= w.men.get(p).has; n++) {
            if (handed(p, to, n).losses()[p] == 0) {
                return n;
            }
        }
        return -1;
    }

    public int gifts(int p) {
        if (!is(p)) {
            return -2;
        }
        int whom = -1;
        for (int q = 0; q < w.men.size(); q++) {
            if (q != p && gift(p, q) >= 0 && (whom == -1 || gift(p, q) < gift(p, whom))) {
                whom = q;
            }
        }
        return whom;
    }

    public int restless() {
        int bits = 0;
        for (int p = 0; p < w.men.size(); p++) {
            bits |= w.restless(p) ? 1 << p : 0;
        }
        return nobody() ? -2 : bits;
    }

    public int rests(int k) {
        if (!in(k, 1, 6) || nobody() || w.men.size() > 3) {
            return -2;
        }
        return rests(w.copy(), 0, Math.min(k, w.steps));
    }

    private static int rests(World t, int p, int k) {
        int many = 0;
        if (p == t.men.size()) {
            for (int q = 0; q < p; q++) {
                if (t.restless(q)) {
                    return 0;
                }
            }
            return 1;
        }
        for (int n = 0; n <= k; n++) {
            t.men.get(p).hidden = 0;
            t.men.get(p).has = n;
            many += rests(t, p + 1, k);
        }
        return many;
    }

    private int goodBy(int p, long[] ways) {
        World t = w.copy();
        for (long way : ways) {
            t.turn(p, (int) way, w);
            t.day();
        }
        return t.men.get(p).good - w.men.get(p).good;
    }

    public int total(int p, int way, int n) {
        if (!is(p) || !in(way, 0, 5) || !in(n, 1, 30)) {
            return NOTHING;
        }
        long[] ways = new long[n];
        Arrays.fill(ways, way);
        return goodBy(p, ways);
    }

    public int way(int p, int n) {
        if (!is(p) || !in(n, 1, 30)) {
            return -2;
        }
        int best = 0;
        for (int way = 1; way < 6; way++) {
            if (total(p, way, n) > total(p, best, n)) {
                best = way;
            }
        }
        return best;
    }

    public int turnsTo(int p, int way) {
        if (!is(p) || !in(way, 0, 5)) {
            return -2;
        }
        int was = w.men.get(p).way;
        w.turn(p, way, w);
        return was;
    }

    public int idle(int n) {
        if (!days(n)) {
            return -2;
        }
        World t = w.copy();
        int sum = 0;
        for (int i = 0; i < n; i++) {
            t.day();
            sum += t.idle;
        }
        return sum;
    }

    public int spread() {
        return w.spread();
    }

    public int beside(int n, int what) {
        if (!days(n) || !in(what, 0, 4)) {
            return NOTHING;
        }
        World t = w.copy();
        t.lawless = what == 1 || what == 4;
        int lost = days(t, n);
        int good = t.men.stream().mapToInt(m -> m.good).sum() - w.men.stream().mapToInt(m -> m.good).sum();
        return what < 2 ? t.spread() : what == 2 ? lost : good;
    }

    public int law(int over, int ties, int goes, boolean least) {
        if (w.lines == 0 || !in(over, 0, 30) || !in(ties, 2, 4) || !in(goes, 0, 2)) {
            return -2;
        }
        w.over = over;
        w.ties = ties;
        w.goes = goes;
        w.least = least;
        return 0;
    }

    private int spreadBy(int ties, int n) {
        World t = w.copy();
        t.ties = ties;
        days(t, n);
        return t.spread();
    }

    public int laws(int n) {
        if (!days(n)) {
            return -2;
        }
        int best = 2;
        for (int ties = 3; ties <= 4; ties++) {
            best = spreadBy(ties, n) < spreadBy(best, n) ? ties : best;
        }
        return best;
    }

    public int leaves(int one, int other) {
        if (!two(one, other)) {
            return -2;
        }
        World t = w.copy();
        int more = Math.max(w.men.get(one).has, w.men.get(other).has);
        t.men.get(one).has = more;
        t.men.get(other).has = more;
        return (t.restless(one) ? 1 : 0) + (t.restless(other) ? 2 : 0);
    }

    public int breaks(int p, int to) {
        if (!two(p, to)) {
            return -2;
        }
        for (int n = 0; n <= w.men.get(p).has; n++) {
            if (handed(p, to, n).losses()[to] > 0) {
                return n;
            }
        }
        return -1;
    }

    public int third(int p) {
        if (!is(p)) {
            return -2;
        }
        int least = 99;
        for (int q = 0; q < w.men.size(); q++) {
            int n = q == p ? -1 : breaks(p, q);
            least = n >= 0 && n < least ? n : least;
        }
        return least == 99 ? -1 : least;
    }

    /** VALUE with all seen as it is, of what is best for p where he sees by these. */
    private int trueWorth(int p, int[] within) {
        World t = w.copy();
        t.within[p] = within;
        int[] b = t.best(p);
        World clear = w.copy();
        Arrays.fill(clear.within[p], 1);
        return clear.value(p, b[1], b[2], b[3], b[4]);
    }

    public int know(int p) {
        return is(p) ? trueWorth(p, new int[] {1, 1, 1, 1, 1, 1, 1, 1}) - trueWorth(p, w.within[p].clone()) : NOTHING;
    }

    public int knows(int p, int q) {
        if (!two(p, q)) {
            return NOTHING;
        }
        int[] within = w.within[p].clone();
        within[q] = 1;
        return trueWorth(p, within) - trueWorth(p, w.within[p].clone());
    }

    public int lend(int from, int to, int n) {
        if (!two(from, to) || !in(n, 1, 30)) {
            return -2;
        }
        if (w.loans.size() == 6) {
            return -3;
        }
        if (w.men.get(from).has < n || w.men.get(to).has + n > w.steps) {
            return -5;
        }
        w.gets(from, -n);
        w.gets(to, n);
        w.loans.add(new int[] {from, to, n});
        return w.loans.size();
    }

    public int round(int from, int to) {
        if (!two(from, to)) {
            return -2;
        }
        for (int n = 1; n <= 30; n++) {
            if (w.men.get(from).has >= n && w.men.get(to).has + n <= w.steps) {
                int[] losses = handed(from, to, n).losses();
                if (losses[from] + losses[to] == 0) {
                    return n;
                }
            }
        }
        return -1;
    }

    private int hides(int p, int n, int found) {
        World t = w.copy();
        t.men.get(p).hidden = n;
        int v = t.value(p, 0, 0, 0, -1);
        t.men.get(p).hidden = 0;
        t.men.get(p).has -= n;
        return (v * (100 - found) + t.value(p, 0, 0, 0, -1) * found) / 100;
    }

    public int hides(int p, int n) {
        return is(p) && in(n, 0, w.men.get(p).has) ? hides(p, n, w.found) : NOTHING;
    }

    public int edge(int p, int n) {
        if (!is(p) || !in(n, 0, w.men.get(p).has)) {
            return -2;
        }
        for (int f = 0; f <= 100; f++) {
            if (hides(p, n, f) <= hides(p, 0, f)) {
                return f;
            }
        }
        return -1;
    }

    public int pays(int p, int n) {
        if (!is(p) || !in(n, 1, 30)) {
            return -2;
        }
        World t = w.copy();
        int sum = 0;
        for (int i = 0; i < n; i++) {
            t.day();
            sum += t.lostToday[p];
        }
        return sum;
    }

    public int quiet(int n, int what) {
        if (!days(n) || !in(what, 0, 1)) {
            return -2;
        }
        World t = w.copy();
        List<Integer> all = new ArrayList<>();
        for (int i = 1; i <= n; i++) {
            if (t.day() == 0) {
                all.add(i);
            }
        }
        return what == 0 ? all.size() : all.isEmpty() ? 0 : all.get(0);
    }

    public int again(int n) {
        if (!days(n)) {
            return -2;
        }
        World t = w.copy();
        for (int i = 1; i <= n; i++) {
            t.day();
            if (Arrays.equals(t.men.stream().mapToInt(m -> m.has).toArray(), w.men.stream().mapToInt(m -> m.has).toArray())) {
                return i;
            }
        }
        return -1;
    }

    public int alike(int n) {
        if (!days(n)) {
            return -2;
        }
        World t = w.copy();
        for (int i = 1; i <= n; i++) {
            t.day();
            if (t.men.stream().mapToInt(m -> m.has).distinct().count() == 1) {
                return i;
            }
        }
        return -1;
    }

    public int follows(int p, int slot) {
        if (!is(p) || !in(slot, 0, 3) || rows[slot] == null || !in(rows[slot].length, 1, 30)
                || Arrays.stream(rows[slot]).anyMatch(v -> v < 0 || v > 5)) {
            return NOTHING;
        }
        return goodBy(p, rows[slot]);
    }

    public int plan(int p, int n, int what) {
        if (!is(p) || !in(n, 1, 3) || !in(what, 0, n)) {
            return NOTHING;
        }
        long[] ways = new long[n];
        int[] best = null;
        for (int row = 0; row < Math.pow(6, n); row++) {
            String digits = Integer.toString(row, 6);
            for (int i = 0; i < n; i++) {
                int at = digits.length() - n + i;
                ways[i] = at < 0 ? 0 : digits.charAt(at) - '0';
            }
            int good = goodBy(p, ways);
            if (best == null || good > best[0]) {
                best = new int[] {good, 0, 0, 0};
                for (int i = 0; i < n; i++) {
                    best[i + 1] = (int) ways[i];
                }
            }
        }
        return best[what];
    }

    public int open() {
        if (nobody()) {
            return -2;
        }
        int each = w.well / w.men.size();
        w.well %= w.men.size();
        for (int p = 0; p < w.men.size(); p++) {
            w.gets(p, each);
        }
        return each;
    }

    /** What a DUEL brings to the one and to the other. */
    private int[] duel(int one, int other, boolean oneEats, boolean otherEats) {
        World t = w.copy();
        int a = t.act(one, 0, oneEats ? Math.min(1, t.men.get(one).has) : 0, 0, -1);
        int b = t.act(other, 0, otherEats ? Math.min(1, t.men.get(other).has) : 0, 0, -1);
        t.strike(false);
        return new int[] {a + t.men.get(one).worth * t.men.get(one).has, b + t.men.get(other).worth * t.men.get(other).has};
    }

    public int duel(int one, int other) {
        if (!two(one, other)) {
            return -2;
        }
        int bits = 0;
        for (int pair = 0; pair < 4; pair++) {
            boolean a = pair % 2 == 1;
            boolean b = pair / 2 == 1;
            int[] here = duel(one, other, a, b);
            if (duel(one, other, !a, b)[0] <= here[0] && duel(one, other, a, !b)[1] <= here[1]) {
                bits += 1 << pair;
            }
        }
        return bits;
    }

    public int mixed(int one, int other) {
        if (!two(one, other)) {
            return -2;
        }
        int a = duel(one, other, false, true)[1] - duel(one, other, false, false)[1];
        int b = a - (duel(one, other, true, true)[1] - duel(one, other, true, false)[1]);
        return b == 0 || !in(10000 * a / b, 0, 10000) ? -1 : 10000 * a / b;
    }

    public int seed(int v) {
        if (!in(v, 0, 2_000_000_000)) {
            return -2;
        }
        w.x = v;
        return 0;
    }

    public int count(int what) {
        int slots = 0;
        for (long[] r : rows) {
            slots += r == null ? 0 : 1;
        }
        int[] all = {w.steps, w.men.size(), w.lines, tape.length, w.well, w.loans.size(), w.days, w.over,
            w.ties, w.goes, w.least ? 1 : 0, w.found, slots};
        return in(what, 0, 12) ? all[what] : -1;
    }

    public int keep(int k) {
        if (!in(k, 0, 2)) {
            return -2;
        }
        images[k] = w.copy();
        return 0;
    }

    public int back(int k) {
        if (!in(k, 0, 2)) {
            return -2;
        }
        if (images[k] == null) {
            return -6;
        }
        w = images[k].copy();
        return 0;
    }

    public int row(int slot, int width, int n) {
        if (!in(slot, 0, 3) || !in(width, 0, 3) || n > 60) {
            return -2;
        }
        if (n < 0) {
            return -3;
        }
        rows[slot] = new long[n];
        widths[slot] = width;
        return 0;
    }

    public int write(int slot, int i, long v) {
        if (!in(slot, 0, 3)) {
            return -2;
        }
        if (rows[slot] == null) {
            return -6;
        }
        if (!in(i, 0, rows[slot].length - 1)) {
            return -7;
        }
        int bits = 64 - (8 << widths[slot]);
        rows[slot][i] = v << bits >> bits;
        return 0;
    }

    public int paste(int slot, int i, int to, int k, int n) {
        if (!in(slot, 0, 3) || !in(to, 0, 3)) {
            return -2;
        }
        if (rows[slot] == null || rows[to] == null) {
            return -6;
        }
        if (widths[slot] != widths[to]) {
            return -8;
        }
        if (i < 0 || k < 0 || n < 0 || (long) i + n > rows[slot].length || (long) k + n > rows[to].length) {
            return -7;
        }
        long[] part = Arrays.copyOfRange(rows[slot], i, i + n);
        for (int j = 0; j < n; j++) {
            rows[to][k + j] = part[j];
        }
        return 0;
    }
}
