import java.util.ArrayList;
import java.util.Arrays;
import java.util.List;

/**
 * The document told a second time, slowly and in another way: TEXTS are read anew at each use, sets and prices are
 * tried one by one. CompareTest holds StampRoad against it.
 */
final class NaiveRoad {
    static final class Fault extends Exception {
        private static final long serialVersionUID = 1L;
        final int number;
        final int place;

        Fault(int number, int place) {
            super(null, null, false, false);
            this.number = number;
            this.place = place;
        }
    }

    static final class Refused extends RuntimeException {
        private static final long serialVersionUID = 1L;

        Refused() {
            super(null, null, false, false);
        }
    }

    interface Env {
        int of(char letter);
    }

    /** Walks over a TEXT; where dry it only looks for FAULTS. */
    static final class Walker {
        final String text;
        final Env env;
        int at;
        int depth;

        Walker(String text, Env env) {
            this.text = text;
            this.env = env;
        }

        char c() {
            return at < text.length() ? text.charAt(at) : '\uffff';
        }

        Fault bad() {
            return new Fault(1, at);
        }

        void open() throws Fault {
            depth++;
            if (depth == 7) {
                throw new Fault(5, at);
            }
            at++;
        }

        void need(char x) throws Fault {
            if (c() != x) {
                throw bad();
            }
            at++;
        }

        int e(boolean live) throws Fault {
            int v = term(live);
            while (c() == '+' || c() == '-') {
                boolean plus = c() == '+';
                at++;
                int w = term(live);
                v = plus ? v + w : v - w;
            }
            return v;
        }

        int term(boolean live) throws Fault {
            int v = factor(live);
            while (c() == '*' || c() == '/' || c() == '%') {
                char op = c();
                at++;
                int w = factor(live);
                if (op == '*') {
                    v = v * w;
                } else if (!live) {
                    v = 0;
                } else if (w == 0) {
                    throw new Refused();
                } else {
                    v = op == '/' ? v / w : v % w;
                }
            }
            return v;
        }

        int factor(boolean live) throws Fault {
            char x = c();
            if (x == '[') {
                open();
                int v = e(live);
                need(']');
                depth--;
                return v;
            }
            if (x >= '0' && x <= '9') {
                int from = at;
                while (c() >= '0' && c() <= '9') {
                    if (at - from == 5) {
                        throw new Fault(2, at);
                    }
                    at++;
                }
                return Integer.parseInt(text.substring(from, at));
            }
            if ("rchmsfpinoyx".indexOf(x) < 0) {
                throw bad();
            }
            at++;
            return live ? env.of(x) : 1;
        }

        boolean cond(boolean live) throws Fault {
            boolean v = part(live);
            while (c() == '|') {
                at++;
                boolean w = part(live && !v);
                v = v || w;
            }
            return v;
        }

        boolean part(boolean live) throws Fault {
            boolean v = piece(live);
            while (c() == '&') {
                at++;
                boolean w = piece(live && v);
                v = v && w;
            }
            return v;
        }

        boolean piece(boolean live) throws Fault {
            if (c() == '!') {
                open();
                boolean v = !piece(live);
                depth--;
                return v;
            }
            if (c() == '(') {
                open();
                boolean v = cond(live);
                need(')');
                depth--;
                return v;
            }
            int v = e(live);
            char op = c();
            if (op != '<' && op != '>' && op != '=') {
                throw bad();
            }
            at++;
            int w = e(live);
            return op == '<' ? v < w : op == '>' ? v > w : v == w;
        }

        /** How many CLAUSES, reckoning nothing. */
        int clauses(String heads) throws Fault {
            int n = 0;
            while (true) {
                if (heads.indexOf(c()) < 0) {
                    throw bad();
                }
                if (n == 12) {
                    throw new Fault(4, at);
                }
                at++;
                e(false);
                if (c() != '(') {
                    throw bad();
                }
                open();
                cond(false);
                need(')');
                depth--;
                n++;
                if (at == text.length()) {
                    return n;
                }
                need(';');
            }
        }
    }

    /** The E of the first CLAUSE of the letter whose C holds. */
    static int pick(String text, char head, int most, Env env) {
        if (text == null) {
            return 0;
        }
        for (String clause : text.split(";")) {
            if (clause.charAt(0) != head) {
                continue;
            }
            int brace = clause.indexOf('(');
            if (holds(clause.substring(brace + 1, clause.length() - 1), env)) {
                return Math.min(most, Math.max(0, sum(clause.substring(1, brace), env)));
            }
        }
        return 0;
    }

    static boolean holds(String c, Env env) {
        try {
            return new Walker(c, env).cond(true);
        } catch (Refused r) {
            return false;
        } catch (Fault f) {
            throw new IllegalStateException(c);
        }
    }

    static int sum(String e, Env env) {
        try {
            return new Walker(e, env).e(true);
        } catch (Refused r) {
            return 0;
        } catch (Fault f) {
            throw new IllegalStateException(e);
        }
    }

    static final class Clerk {
        int pay;
        int fear;
        int has;
        int took;
        String way;
    }

    static final class Paper {
        int right;
        int coin0;
        int coin;
        int haste;
        int came;
        int step;
        int m;
        int paid;
        int told;
        int done = -1;
    }

    final List<Clerk> clerks = new ArrayList<>();
    final List<int[]> steps = new ArrayList<>();
    final List<Paper> files = new ArrayList<>();
    final List<Integer> values = new ArrayList<>();
    final List<int[]> entries = new ArrayList<>();
    final List<int[]> gos = new ArrayList<>();
    String tape = "";
    String law;
    String gain;
    int now;
    int x = 1;
    int seed = 1;
    int before;

    static boolean in(int v, int lo, int hi) {
        return lo <= v && v <= hi;
    }

    boolean set(int s) {
        return in(s, 0, (1 << clerks.size()) - 1);
    }

    int clerk(int pay, int fear) {
        if (!in(pay, 0, 1000) || !in(fear, 0, 100) || clerks.size() == 10) {
            return -1;
        }
        Clerk c = new Clerk();
        c.pay = pay;
        c.fear = fear;
        clerks.add(c);
        return clerks.size() - 1;
    }

    int step(int set, int shape) {
        if (set == 0 || !set(set) || !in(shape, 0, 2) || steps.size() == 8 || !files.isEmpty()) {
            return -1;
        }
        steps.add(new int[] {set, shape});
        return steps.size() - 1;
    }

    int seed(int v) {
        if (!in(v, 0, 65535)) {
            return 0;
        }
        x = v;
        seed = v;
        return 1;
    }

    int file(int right, int coin, int haste) {
        if (!in(right, 0, 1) || !in(coin, 0, 10000) || !in(haste, 0, 200) || files.size() == 40 || steps.isEmpty()) {
            return -1;
        }
        Paper p = new Paper();
        p.right = right;
        p.coin = coin;
        p.coin0 = coin;
        p.haste = haste;
        p.came = now;
        files.add(p);
        return files.size() - 1;
    }

    int feed(int... five) {
        if (tape.length() > 180) {
            return -1;
        }
        for (int v : five) {
            tape += "" + (char) (v >>> 24) + (char) (v >>> 16 & 255) + (char) (v >>> 8 & 255) + (char) (v & 255);
        }
        return tape.length();
    }

    int way(int i, int n) {
        if (!in(i, 0, clerks.size() - 1) || !in(n, 1, Math.min(160, tape.length()))) {
            return -1;
        }
        String text = tape.substring(0, n);
        tape = "";
        try {
            int k = new Walker(text, null).clauses("aw");
            clerks.get(i).way = text;
            return k;
        } catch (Fault f) {
            return -1000 * f.number - f.place;
        }
    }

    int law(int n) {
        if (!in(n, 1, Math.min(160, tape.length()))) {
            return -1;
        }
        String text = tape.substring(0, n);
        tape = "";
        try {
            int k = new Walker(text, null).clauses("gkb");
            law = text;
            return k;
        } catch (Fault f) {
            return -1000 * f.number - f.place;
        }
    }

    int gain(int n) {
        if (!in(n, 1, Math.min(60, tape.length()))) {
            return -1;
        }
        String text = tape.substring(0, n);
        tape = "";
        try {
            Walker w = new Walker(text, null);
            w.e(false);
            if (w.at != n) {
                throw w.bad();
            }
            gain = text;
            return 1;
        } catch (Fault f) {
            return -1000 * f.number - f.place;
        }
    }

    Env env(int i, Paper p, int price) {
        return letter -> {
            switch (letter) {
                case 'r': return p.right;
                case 'c': return p.coin;
                case 'h': return p.haste;
                case 'm': return p.m;
                case 's': return p.step;
                case 'f': return clerks.get(i).fear;
                case 'p': return clerks.get(i).pay;
                case 'i': return i;
                case 'n': return (int) files.stream().filter(q -> q.step == p.step).count();
                case 'o': return before;
                case 'y': return now;
                default: return price;
            }
        };
    }

    int price(int i, Paper p) {
        return pick(clerks.get(i).way, 'a', 10000, env(i, p, 0));
    }

    int wait(int i, Paper p) {
        return pick(clerks.get(i).way, 'w', 24, env(i, p, 0));
    }

    List<Integer> members(int set) {
        List<Integer> all = new ArrayList<>();
        for (int i = 0; i < 10; i++) {
            if ((set & 1 << i) != 0) {
                all.add(i);
            }
        }
        return all;
    }

    int server(Paper p) {
        int[] st = steps.get(p.step);
        List<Integer> all = members(st[0]);
        if (st[1] == 2) {
            x = (int) ((25173L * x + 13849) % 65536);
            return all.get(x % all.size());
        }
        if (st[1] == 1) {
            all.sort((a, b) -> price(a, p) != price(b, p) ? price(a, p) - price(b, p)
                : wait(a, p) != wait(b, p) ? wait(a, p) - wait(b, p) : a - b);
        }
        return all.get(0);
    }

    int month() {
        if (now == 239) {
            return -1;
        }
        int sum = 0;
        boolean[] takes = new boolean[10];
        for (Paper p : files) {
            if (p.step == steps.size()) {
                continue;
            }
            int i = server(p);
            int price = price(i, p);
            int wait = wait(i, p);
            boolean pays = price > 0 && price <= p.coin
                && (p.right == 0 || p.m < wait && price <= p.haste * (wait - p.m));
            boolean goes = pays || (p.right == 1 || price == 0) && p.m >= wait;
            if (pays) {
                int g = pick(law, 'g', 10000, env(i, p, price));
                int k = pick(law, 'k', 10000, env(i, p, price));
                int b = pick(law, 'b', 10000, env(i, p, price));
                sum += price;
                takes[i] = true;
                p.paid += price;
                p.coin -= price;
                clerks.get(i).took++;
                clerks.get(i).has += price;
                if (b > g) {
                    p.told++;
                    p.coin = p.coin - g + b;
                    clerks.get(i).has -= b;
                    clerks.get(i).has -= k;
                }
            }
            if (goes) {
                p.step++;
                p.m = 0;
                if (p.step == steps.size()) {
                    p.done = now;
                }
            } else {
                p.m++;
            }
        }
        before = 0;
        for (boolean t : takes) {
            before += t ? 1 : 0;
        }
        now++;
        return sum;
    }

    int fileIs(int j, int what) {
        if (!in(j, 0, files.size() - 1) || !in(what, 0, 6)) {
            return -1;
        }
        Paper p = files.get(j);
        return new int[] {p.step, p.coin, p.m, p.paid, p.told, p.done, p.came}[what];
    }

    int clerkIs(int i, int what) {
        if (!in(i, 0, clerks.size() - 1) || !in(what, 0, 3)) {
            return -1000000000;
        }
        Clerk c = clerks.get(i);
        return new int[] {c.has, c.took, c.pay, c.fear}[what];
    }

    boolean moving(int i, int j) {
        return in(i, 0, clerks.size() - 1) && in(j, 0, files.size() - 1) && files.get(j).step < steps.size();
    }

    int asks(int i, int j, int what) {
        if (!moving(i, j) || !in(what, 0, 1) || !members(steps.get(files.get(j).step)[0]).contains(i)) {
            return -1;
        }
        return what == 0 ? price(i, files.get(j)) : wait(i, files.get(j));
    }

    int told(int i, int j, int give, int what) {
        if (!moving(i, j) || !in(what, 0, 2) || !in(give, 0, 10000)) {
            return -1;
        }
        return pick(law, "gkb".charAt(what), 10000, env(i, files.get(j), give));
    }

    /** Above 0: he takes and does not want to, or the other way round. */
    boolean otherwise(int i, int set) {
        int others = Integer.bitCount(set & ~(1 << i));
        int v = sum(gain, letter -> letter == 'i' ? i : letter == 'f' ? clerks.get(i).fear
            : letter == 'p' ? clerks.get(i).pay : letter == 'o' ? others : letter == 'n' ? clerks.size() : 0);
        return (set & 1 << i) != 0 ? v < 0 : v > 0;
    }

    boolean resting(int set) {
        for (int i = 0; i < clerks.size(); i++) {
            if (otherwise(i, set)) {
                return false;
            }
        }
        return true;
    }

    int rest(int set) {
        return !set(set) || gain == null ? -1 : resting(set) ? 1 : 0;
    }

    int rests(int what) {
        if (gain == null) {
            return -1;
        }
        List<Integer> all = new ArrayList<>();
        for (int s = 0; s < 1 << clerks.size(); s++) {
            if (resting(s)) {
                all.add(s);
            }
        }
        return what == -1 ? all.size() : in(what, 0, all.size() - 1) ? all.get(what) : -1;
    }

    int goesTo(int set) {
        if (!set(set) || gain == null) {
            return -1;
        }
        int s = set;
        for (int round = 1; round <= 100; round++) {
            int changed = 0;
            for (int i = 0; i < clerks.size(); i++) {
                if (otherwise(i, s)) {
                    s ^= 1 << i;
                    changed++;
                }
            }
            if (changed == 0) {
                return s;
            }
        }
        return -2;
    }

    int turned(int from, int to) {
        if (!set(from) || !set(to) || gain == null || !resting(to)) {
            return -1;
        }
        for (int size = 0; size <= 10; size++) {
            for (int c = 0; c < 1 << clerks.size(); c++) {
                if (Integer.bitCount(c) == size && goesTo(from ^ c) == to) {
                    return c;
                }
            }
        }
        return -2;
    }

    int value(int v) {
        if (!in(v, 0, 10000) || values.size() == 20) {
            return -1;
        }
        values.add(v);
        return values.size();
    }

    int demand(int all) {
        int n = 0;
        for (int v : values) {
            n += v >= all ? 1 : 0;
        }
        return n;
    }

    int best(int others) {
        int best = 0;
        int top = values.stream().mapToInt(v -> v).max().orElse(0);
        for (int p = 0; p <= top; p++) {
            if (p * demand(p + others) > best * demand(best + others)) {
                best = p;
            }
        }
        return best;
    }

    int one(int what) {
        if (!in(what, 0, 1)) {
            return -1;
        }
        int p = best(0);
        return what == 0 ? p : p * demand(p);
    }

    int each(int n, int what) {
        if (!in(n, 1, 11) || !in(what, 0, 1)) {
            return -1;
        }
        int[] p = new int[n];
        for (int round = 1; round <= 100; round++) {
            int[] old = p.clone();
            for (int h = 0; h < n; h++) {
                p[h] = 0;
                p[h] = best(Arrays.stream(p).sum());
            }
            if (Arrays.equals(old, p)) {
                int all = Arrays.stream(p).sum();
                return what == 0 ? all : all * demand(all);
            }
        }
        return -2;
    }

    int made(int s, int what) {
        if (!in(s, 0, steps.size() - 1) || !in(what, 0, 1)) {
            return -1;
        }
        int best = 0;
        int most = -1;
        for (int w = 0; w <= 24; w++) {
            int sum = 0;
            for (Paper p : files) {
                sum += p.step == s && p.right == 1 && p.haste * w <= p.coin ? p.haste * w : 0;
            }
            if (sum > most) {
                best = w;
                most = sum;
            }
        }
        return what == 0 ? best : most;
    }

    int entry(int s, int sum) {
        if (!in(s, 0, steps.size() - 1) || !in(sum, 0, 10000) || entries.size() == 60) {
            return -1;
        }
        entries.add(new int[] {s, sum});
        return entries.size();
    }

    int middle(int s, int liars, int what) {
        if (!in(s, 0, steps.size() - 1) || !in(liars, 0, 60) || !in(what, 0, 1)) {
            return -1;
        }
        int[] sums = entries.stream().filter(e -> e[0] == s).mapToInt(e -> e[1]).sorted().toArray();
        if (sums.length == 0) {
            return -2;
        }
        for (int k = 0; k < Math.min(liars, sums.length); k++) {
            if (what == 0) {
                sums[sums.length - 1 - k] = 0;
            } else {
                sums[k] = 10000;
            }
        }
        Arrays.sort(sums);
        return sums[sums.length / 2];
    }

    int go(int set, int price, int a, int b) {
        if (set == 0 || !set(set) || !in(price, 0, 30000) || !in(a, 0, 30000) || !in(b, 0, 30000) || a > b
            || b > price || gos.size() == 8) {
            return -1;
        }
        gos.add(new int[] {set, price, a, b});
        return gos.size() - 1;
    }

    int span(int clerk, int what) {
        if (!in(clerk, 0, clerks.size() - 1) || !in(what, 0, 1)) {
            return -1;
        }
        int[] lo = new int[10];
        int[] hi = new int[10];
        Arrays.fill(hi, 10000);
        boolean changes = true;
        while (changes) {
            changes = false;
            for (int[] g : gos) {
                for (int i : members(g[0])) {
                    int otherLo = 0;
                    int otherHi = 0;
                    for (int o : members(g[0] & ~(1 << i))) {
                        otherLo += lo[o];
                        otherHi += hi[o];
                    }
                    int least = g[1] - g[3] - otherHi;
                    int most = g[1] - g[2] - otherLo;
                    if (least > lo[i]) {
                        lo[i] = least;
                        changes = true;
                    }
                    if (most < hi[i]) {
                        hi[i] = most;
                        changes = true;
                    }
                    if (lo[i] > hi[i]) {
                        return -2;
                    }
                }
            }
        }
        return what == 0 ? lo[clerk] : hi[clerk];
    }

    /** By counting every set that might be tried. */
    static int[] tries(int n, int m, int k, int t) {
        int hit = 0;
        int all = 0;
        for (int s = 0; s < 1 << n; s++) {
            if (Integer.bitCount(s) == m) {
                all++;
                hit += Integer.bitCount(s & (1 << t) - 1) == k ? 1 : 0;
            }
        }
        return new int[] {hit, all};
    }

    static boolean tried(int n, int m, int k) {
        return in(n, 1, 10) && in(m, 0, n) && in(k, 0, m);
    }

    int odds(int n, int m, int k, int t, int what) {
        if (!tried(n, m, k) || !in(t, 0, n) || !in(what, 0, 1)) {
            return -1;
        }
        int[] f = tries(n, m, k, t);
        for (int d = f[1]; d > 1; d--) {
            if (f[0] % d == 0 && f[1] % d == 0) {
                f[0] /= d;
                f[1] /= d;
            }
        }
        return f[what];
    }

    int those(int n, int m, int k, int thousandths, int what) {
        if (!tried(n, m, k) || !in(thousandths, 1, 1000) || !in(what, 0, 1)) {
            return -1;
        }
        List<Integer> all = new ArrayList<>();
        for (int t = 0; t <= n; t++) {
            int[] f = tries(n, m, k, t);
            if (f[0] * 1000 >= thousandths * f[1]) {
                all.add(t);
            }
        }
        return all.isEmpty() ? -2 : all.get(what == 0 ? 0 : all.size() - 1);
    }

    int bears() {
        int best = -1;
        for (int j = 0; j < files.size(); j++) {
            Paper p = files.get(j);
            if (p.coin0 > 0 && p.paid > 0) {
                if (best < 0 || (long) p.paid * files.get(best).coin0 > (long) files.get(best).paid * p.coin0) {
                    best = j;
                }
            }
        }
        return best;
    }

    int again(int what) {
        if (!in(what, 0, 2)) {
            return -1;
        }
        NaiveRoad r = new NaiveRoad();
        for (Clerk c : clerks) {
            r.clerk(c.pay, c.fear);
            r.clerks.get(r.clerks.size() - 1).way = c.way;
        }
        for (int[] s : steps) {
            r.step(s[0], s[1]);
        }
        r.law = law;
        r.seed(seed);
        int sum = 0;
        for (int y = 0; y <= now; y++) {
            for (Paper p : files) {
                if (p.came == y) {
                    r.file(p.right, p.coin0, p.haste);
                }
            }
            if (y < now) {
                sum += r.month();
            }
        }
        int done = 0;
        int same = 1;
        for (int j = 0; j < files.size(); j++) {
            done += r.files.get(j).step == steps.size() ? 1 : 0;
            if (r.files.get(j).step != files.get(j).step) {
                same = 0;
            }
        }
        return what == 0 ? done : what == 1 ? sum : same;
    }

    int check(int n) {
        if (n < 0 || 12L * n > tape.length()) {
            return -2;
        }
        int[] given = new int[3 * n];
        for (int k = 0; k < 3 * n; k++) {
            for (int b = 0; b < 4; b++) {
                given[k] = given[k] * 256 + tape.charAt(4 * k + b);
            }
        }
        tape = "";
        List<Integer> right = new ArrayList<>();
        for (int j = 0; j < files.size(); j++) {
            right.addAll(List.of(j, files.get(j).step, files.get(j).coin));
        }
        for (int k = 0; k < 3 * n; k++) {
            if (k >= right.size() || given[k] != right.get(k)) {
                return k;
            }
        }
        return right.size() > 3 * n ? 3 * n : -1;
    }

    int clauses(String text) {
        return text == null ? 0 : text.split(";").length;
    }

    int count(int what) {
        if (in(what, 20, 19 + clerks.size())) {
            return clauses(clerks.get(what - 20).way);
        }
        if (!in(what, 0, 10)) {
            return -1;
        }
        return new int[] {now, clerks.size(), steps.size(), files.size(), tape.length(), values.size(),
            entries.size(), gos.size(), x, clauses(law), before}[what];
    }
}
