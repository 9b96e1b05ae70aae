import java.util.ArrayList;
import java.util.Arrays;
import java.util.HashMap;
import java.util.List;
import java.util.Map;
import java.util.TreeSet;

/** The document told again as plainly as can be, by other ways than the class's own: slow, and only for tests. */
final class Model {
    static final class Work {
        int asker;
        List<Integer> things = new ArrayList<>();
        int worth;
        int day;
        boolean done;

        Work copy() {
            Work w = new Work();
            w.asker = asker;
            w.things = new ArrayList<>(things);
            w.worth = worth;
            w.day = day;
            w.done = done;
            return w;
        }

        int bits() {
            int bits = 0;
            for (int t : things) {
                bits += 1 << t;
            }
            return bits;
        }
    }

    static final class State {
        List<int[]> people = new ArrayList<>(); // coin, living, heir
        int[][] like = new int[12][12];
        boolean[][] odds = new boolean[12][12];
        int[][] given = new int[12][12];
        List<int[]> things = new ArrayList<>(); // first, second, use
        List<Work> works = new ArrayList<>();
        List<Integer> row = new ArrayList<>();
        int year;
        long x;

        State copy() {
            State s = new State();
            for (int[] p : people) {
                s.people.add(p.clone());
            }
            for (int i = 0; i < 12; i++) {
                s.like[i] = like[i].clone();
                s.odds[i] = odds[i].clone();
                s.given[i] = given[i].clone();
            }
            for (int[] t : things) {
                s.things.add(t.clone());
            }
            for (Work w : works) {
                s.works.add(w.copy());
            }
            s.row.addAll(row);
            s.year = year;
            s.x = x;
            return s;
        }

        boolean person(int p) {
            return p >= 0 && p < people.size();
        }

        boolean lives(int p) {
            return person(p) && people.get(p)[1] == 1;
        }

        int owns(int p) {
            int n = 0;
            for (int[] t : things) {
                n += t[0] == p || t[1] == p ? 1 : 0;
            }
            return n;
        }

        int shared(int a, int b) {
            int n = 0;
            for (int[] t : things) {
                n += t[0] == a && t[1] == b || t[0] == b && t[1] == a ? 1 : 0;
            }
            return n;
        }

        int near(int p) {
            int n = 0;
            for (int q = 0; q < 12; q++) {
                n += odds[p][q] ? 1 : 0;
            }
            return n;
        }

        int content(int p) {
            int n = 0;
            for (int[] t : things) {
                n += t[0] == p ? like[p][t[1]] : t[1] == p ? like[p][t[0]] : 0;
            }
            return n;
        }

        int quarrels() {
            int n = 0;
            for (int a = 0; a < 12; a++) {
                for (int b = 0; b < a; b++) {
                    n += odds[a][b] ? 1 : 0;
                }
            }
            return n;
        }

        int livingCount() {
            int n = 0;
            for (int[] p : people) {
                n += p[1];
            }
            return n;
        }

        boolean needs(int w, int a, int b) {
            Work work = works.get(w);
            for (int t : work.things) {
                int[] thing = things.get(t);
                List<Integer> owners = List.of(thing[0], thing[1]);
                if (owners.contains(a) && owners.contains(b)) {
                    return true;
                }
                if (work.asker == a && owners.contains(b) || work.asker == b && owners.contains(a)) {
                    return true;
                }
            }
            return false;
        }

        int stopped() {
            int n = 0;
            for (int w = 0; w < works.size(); w++) {
                boolean stops = false;
                for (int a = 0; a < people.size(); a++) {
                    for (int b = 0; b < a; b++) {
                        stops |= odds[a][b] && needs(w, a, b);
                    }
                }
                n += stops && !works.get(w).done ? 1 : 0;
            }
            return n;
        }
    }

    State now = new State();
    final State[] images = new State[4];
    final List<ModelLaw> laws = new ArrayList<>();
    final List<Integer> tape = new ArrayList<>();

    private boolean law(int l) {
        return l >= 0 && l < laws.size();
    }

    private boolean work(int w) {
        return w >= 0 && w < now.works.size();
    }

    private static List<Integer> members(int bits) {
        List<Integer> list = new ArrayList<>();
        for (int i = 0; i < 32; i++) {
            if ((bits >>> i & 1) == 1) {
                list.add(i);
            }
        }
        return list;
    }

    private static boolean allBelow(List<Integer> list, int n) {
        for (int i : list) {
            if (i >= n) {
                return false;
            }
        }
        return true;
    }

    int person(int coin) {
        if (now.people.size() == 12 || coin < 0 || coin > 99999) {
            return -1;
        }
        now.people.add(new int[] {coin, 1, -1});
        return now.people.size() - 1;
    }

    int like(int of, int to, int n) {
        if (!now.person(of) || !now.person(to) || of == to || n < -9 || n > 9) {
            return -100;
        }
        int was = now.like[of][to];
        now.like[of][to] = n;
        return was;
    }

    boolean quarrel(int a, int b, boolean is) {
        if (a == b || !now.lives(a) || !now.lives(b) || now.odds[a][b] == is) {
            return false;
        }
        now.odds[a][b] = is;
        now.odds[b][a] = is;
        return true;
    }

    int heir(int of, int to) {
        if (!now.person(of) || of == to || to != -1 && !now.person(to)) {
            return -2;
        }
        int was = now.people.get(of)[2];
        now.people.get(of)[2] = to;
        return was;
    }

    int thing(int a, int b, int use) {
        if (now.things.size() == 24 || a == b || !now.lives(a) || !now.lives(b) || use < 0 || use > 999) {
            return -1;
        }
        now.things.add(new int[] {a, b, use});
        return now.things.size() - 1;
    }

    int work(int asker, int things, int worth, int day) {
        List<Integer> set = members(things);
        if (now.works.size() == 12 || !now.lives(asker) || set.isEmpty() || set.size() > 4
                || !allBelow(set, now.things.size()) || worth < 0 || worth > 9999 || day < 0 || day > 99) {
            return -1;
        }
        Work w = new Work();
        w.asker = asker;
        w.things = set;
        w.worth = worth;
        w.day = day;
        now.works.add(w);
        return now.works.size() - 1;
    }

    int feed(int... five) {
        if (tape.size() + 20 > 400) {
            return -1;
        }
        for (int n : five) {
            long big = n & 0xffffffffL;
            tape.add((int) (big / 16777216));
            tape.add((int) (big / 65536 % 256));
            tape.add((int) (big / 256 % 256));
            tape.add((int) (big % 256));
        }
        return tape.size();
    }

    int end(int n) {
        if (n < 0 || n > tape.size()) {
            return -1;
        }
        while (tape.size() > n) {
            tape.remove(tape.size() - 1);
        }
        return n;
    }

    int law() {
        if (laws.size() == 6) {
            return -1;
        }
        ModelLaw read = new ModelLaw(new ArrayList<>(tape));
        tape.clear();
        if (read.fault != 0) {
            return -2 - read.fault;
        }
        laws.add(read);
        return laws.size() - 1;
    }

    int of(int p, int what) {
        if (!now.person(p) || what < 0 || what > 6) {
            return -100;
        }
        TreeSet<Integer> mates = new TreeSet<>();
        for (int q = 0; q < 12; q++) {
            if (q != p && now.shared(p, q) > 0) {
                mates.add(q);
            }
        }
        int[] person = now.people.get(p);
        return new int[] {person[0], person[1], person[2], now.owns(p), now.near(p), now.content(p),
            mates.size()}[what];
    }

    int two(int a, int b, int what) {
        if (!now.person(a) || !now.person(b) || a == b || what < 0 || what > 4) {
            return -100;
        }
        int stops = 0;
        for (int w = 0; w < now.works.size(); w++) {
            stops += !now.works.get(w).done && now.needs(w, a, b) ? 1 : 0;
        }
        return new int[] {now.like[a][b], now.odds[a][b] ? 1 : 0, now.shared(a, b), now.given[a][b], stops}[what];
    }

    int things(int t, int what) {
        if (t < 0 || t >= now.things.size() || what < 0 || what > 2) {
            return -1;
        }
        return now.things.get(t)[what];
    }

    int works(int w, int what) {
        if (!work(w) || what < 0 || what > 4) {
            return -1;
        }
        Work k = now.works.get(w);
        return new int[] {k.asker, k.bits(), k.worth, k.day, k.done ? 1 : 0}[what];
    }

    private static int nodIn(State s, ModelLaw law, Work w, int t, int owner) {
        int[] thing = s.things.get(t);
        int mate = thing[0] == owner ? thing[1] : thing[0];
        if (owner == w.asker) {
            return 0;
        }
        if (s.odds[owner][w.asker]) {
            return -2;
        }
        Map<String, Long> words = new HashMap<>();
        words.put("like", (long) s.like[owner][w.asker]);
        words.put("mate", (long) s.like[owner][mate]);
        words.put("worth", (long) w.worth);
        words.put("use", (long) thing[2]);
        words.put("owns", (long) s.owns(owner));
        words.put("coin", (long) s.people.get(w.asker)[0]);
        words.put("day", (long) w.day);
        words.put("given", (long) (s.given[owner][w.asker] - s.given[w.asker][owner]));
        words.put("shared", (long) s.shared(owner, w.asker));
        words.put("near", (long) s.near(owner));
        words.put("year", (long) s.year);
        if (law.sum("yes", words) > 0) {
            return 0;
        }
        long price = law.sum("price", words);
        return price <= 0 ? -2 : price > 9999 ? 9999 : (int) price;
    }

    private static int needIn(State s, ModelLaw law, Work w, int t) {
        Map<String, Long> words = new HashMap<>();
        words.put("worth", (long) w.worth);
        words.put("use", (long) s.things.get(t)[2]);
        words.put("coin", (long) s.people.get(w.asker)[0]);
        words.put("day", (long) w.day);
        words.put("year", (long) s.year);
        return law.sum("nods", words) >= 2 ? 2 : 1;
    }

    /** The nods by which a THING is HAD, owner and price by turns; null if it can't be. */
    private static int[] hadIn(State s, ModelLaw law, Work w, int t) {
        int a = s.things.get(t)[0];
        int b = s.things.get(t)[1];
        int one = nodIn(s, law, w, t, a);
        int two = nodIn(s, law, w, t, b);
        if (needIn(s, law, w, t) == 2) {
            return one == -2 || two == -2 || s.odds[a][b] ? null : new int[] {a, one, b, two};
        }
        if (one == -2 && two == -2) {
            return null;
        }
        if (one == -2) {
            return new int[] {b, two};
        }
        if (two == -2) {
            return new int[] {a, one};
        }
        return two < one ? new int[] {b, two} : new int[] {a, one};
    }

    private static boolean taken(State s, Work w) {
        for (Work o : s.works) {
            if (o.done && o != w && o.day == w.day) {
                for (int t : w.things) {
                    if (o.things.contains(t)) {
                        return true;
                    }
                }
            }
        }
        return false;
    }

    private static boolean canIn(State s, ModelLaw law, Work w) {
        if (w.done || !s.lives(w.asker) || taken(s, w)) {
            return false;
        }
        int sum = 0;
        for (int t : w.things) {
            int[] had = hadIn(s, law, w, t);
            if (had == null) {
                return false;
            }
            for (int i = 1; i < had.length; i += 2) {
                sum += had[i];
            }
        }
        return sum <= s.people.get(w.asker)[0];
    }

    private static int doIn(State s, ModelLaw law, Work w) {
        List<int[]> all = new ArrayList<>();
        for (int t : w.things) {
            all.add(hadIn(s, law, w, t));
        }
        int sum = 0;
        for (int[] had : all) {
            for (int i = 0; i < had.length; i += 2) {
                sum += had[i + 1];
                if (had[i] != w.asker) {
                    int[] person = s.people.get(had[i]);
                    person[0] = Math.min(99999, person[0] + had[i + 1]);
                    s.given[had[i]][w.asker]++;
                }
            }
        }
        int[] asker = s.people.get(w.asker);
        asker[0] = Math.min(99999, asker[0] - sum + w.worth);
        w.done = true;
        return sum;
    }

    private boolean inWork(int w, int t) {
        return work(w) && now.works.get(w).things.contains(t);
    }

    int nod(int l, int w, int t, int p) {
        if (!law(l) || !inWork(w, t) || now.things.get(t)[0] != p && now.things.get(t)[1] != p) {
            return -1;
        }
        return nodIn(now, laws.get(l), now.works.get(w), t, p);
    }

    int had(int l, int w, int t) {
        if (!law(l) || !inWork(w, t)) {
            return -1;
        }
        int[] had = hadIn(now, laws.get(l), now.works.get(w), t);
        return had == null ? -2 : had.length == 4 ? had[1] + had[3] : had[1];
    }

    int can(int l, int w) {
        return !law(l) || !work(w) ? -1 : canIn(now, laws.get(l), now.works.get(w)) ? 1 : 0;
    }

    int bars(int l, int w) {
        if (!law(l) || !work(w)) {
            return -1;
        }
        Work k = now.works.get(w);
        for (int t : k.things) {
            if (hadIn(now, laws.get(l), k, t) == null) {
                int a = now.things.get(t)[0];
                int b = now.things.get(t)[1];
                if (nodIn(now, laws.get(l), k, t, a) == -2) {
                    return a;
                }
                return nodIn(now, laws.get(l), k, t, b) == -2 ? b : a;
            }
        }
        return -2;
    }

    int does(int l, int w) {
        if (!law(l) || !work(w)) {
            return -1;
        }
        return can(l, w) == 0 ? -2 : doIn(now, laws.get(l), now.works.get(w));
    }

    int row(int w) {
        if (w == -1) {
            now.row.clear();
            return 0;
        }
        if (!work(w) || now.row.size() == 12) {
            return -2;
        }
        now.row.add(w);
        return now.row.size();
    }

    /** Place, worth before, then all COINS. */
    private int[] judge(int l) {
        State s = now.copy();
        int[] answer = new int[14];
        answer[0] = -1;
        for (int i = 0; i < s.row.size() && answer[0] == -1; i++) {
            Work w = s.works.get(s.row.get(i));
            if (canIn(s, laws.get(l), w)) {
                doIn(s, laws.get(l), w);
                answer[1] += w.worth;
            } else {
                answer[0] = i;
            }
        }
        for (int p = 0; p < s.people.size(); p++) {
            answer[2 + p] = s.people.get(p)[0];
        }
        return answer;
    }

    int judged(int l, int what) {
        return !law(l) ? -2 : what < 0 || what > 1 ? -1 : judge(l)[what];
    }

    int then(int l, int p) {
        return !law(l) || !now.person(p) ? -1 : judge(l)[2 + p];
    }

    private boolean apart(List<Integer> set) {
        for (int a : set) {
            for (int b : set) {
                Work v = now.works.get(a);
                Work w = now.works.get(b);
                if (a < b && v.day == w.day && (v.bits() & w.bits()) != 0) {
                    return false;
                }
            }
        }
        return true;
    }

    private boolean chainHolds(ModelLaw law, List<Integer> set) {
        if (!apart(set)) {
            return false;
        }
        TreeSet<Integer> askers = new TreeSet<>();
        for (int w : set) {
            askers.add(now.works.get(w).asker);
        }
        for (int i : set) {
            Work w = now.works.get(i);
            if (w.done || !now.lives(w.asker) || taken(now, w)) {
                return false;
            }
            for (int t : w.things) {
                int nodding = 0;
                int[] thing = now.things.get(t);
                for (int h = 0; h < 2; h++) {
                    boolean nods = nodIn(now, law, w, t, thing[h]) != -2
                            || !now.odds[thing[h]][w.asker] && askers.contains(thing[h]);
                    nodding += nods ? 1 : 0;
                }
                int need = needIn(now, law, w, t);
                if (nodding < need || need == 2 && now.odds[thing[0]][thing[1]]) {
                    return false;
                }
            }
        }
        return true;
    }

    int chain(int l, int w) {
        if (!law(l) || !work(w)) {
            return -1;
        }
        for (int size = 1; size <= now.works.size(); size++) {
            for (int set = 1; set < 1 << now.works.size(); set++) {
                if (Integer.bitCount(set) == size && (set >> w & 1) == 1 && chainHolds(laws.get(l), members(set))) {
                    return set;
                }
            }
        }
        return -2;
    }

    private int worthOf(int set) {
        int sum = 0;
        for (int w : members(set)) {
            sum += now.works.get(w).worth;
        }
        return sum;
    }

    int all(int l, int what) {
        if (!law(l) || what < 0 || what > 1) {
            return -1;
        }
        int can = 0;
        for (int w = 0; w < now.works.size(); w++) {
            can |= canIn(now, laws.get(l), now.works.get(w)) ? 1 << w : 0;
        }
        int best = 0;
        for (int set = 1; set < 1 << now.works.size(); set++) {
            if ((set & ~can) == 0 && apart(members(set))) {
                int more = worthOf(set) - worthOf(best);
                if (more > 0 || more == 0 && Integer.bitCount(set) < Integer.bitCount(best)) {
                    best = set;
                }
            }
        }
        return what == 0 ? best : worthOf(best);
    }

    private int v(List<Integer> some) {
        int usable = 0;
        for (int i = 0; i < now.works.size(); i++) {
            Work w = now.works.get(i);
            boolean inside = !w.done && some.contains(w.asker);
            for (int t : w.things) {
                inside &= some.contains(now.things.get(t)[0]) && some.contains(now.things.get(t)[1]);
            }
            usable |= inside ? 1 << i : 0;
        }
        int best = 0;
        for (int set = usable; set > 0; set = set - 1 & usable) {
            if (worthOf(set) > best && apart(members(set))) {
                best = worthOf(set);
            }
        }
        return best;
    }

    private boolean sharers(int people) {
        List<Integer> set = members(people);
        return !set.isEmpty() && set.size() <= 6 && allBelow(set, now.people.size());
    }

    int worth(int people) {
        return sharers(people) ? v(members(people)) : -1;
    }

    private final Map<Integer, Integer> known = new HashMap<>();

    /** All orders, one by one. */
    private long comes(List<Integer> came, List<Integer> left, int who) {
        long sum = 0;
        for (int next : left) {
            List<Integer> more = new ArrayList<>(came);
            more.add(next);
            List<Integer> fewer = new ArrayList<>(left);
            fewer.remove((Integer) next);
            if (next == who) {
                long orders = 1;
                for (int i = 2; i <= fewer.size(); i++) {
                    orders *= i;
                }
                sum += orders * (remembered(more) - remembered(came));
            } else {
                sum += comes(more, fewer, who);
            }
        }
        return sum;
    }

    private int remembered(List<Integer> some) {
        int bits = 0;
        for (int p : some) {
            bits |= 1 << p;
        }
        if (!known.containsKey(bits)) {
            known.put(bits, v(some));
        }
        return known.get(bits);
    }

    int share(int people, int person, int part) {
        if (!sharers(people) || !members(people).contains(person) || part < 0 || part > 1) {
            return -1;
        }
        known.clear();
        long above = comes(new ArrayList<>(), members(people), person);
        long below = 1;
        for (int i = 2; i <= Integer.bitCount(people); i++) {
            below *= i;
        }
        for (int d = (int) below; d > 1; d--) {
            if (above % d == 0 && below % d == 0) {
                above /= d;
                below /= d;
            }
        }
        return (int) (part == 0 ? above : below);
    }

    int stopped() {
        return now.stopped();
    }

    private boolean covers(List<Integer> works, int twos) {
        if (works.isEmpty()) {
            return true;
        }
        if (twos == 0) {
            return false;
        }
        for (int a = 0; a < now.people.size(); a++) {
            for (int b = 0; b < a; b++) {
                if (now.needs(works.get(0), a, b)) {
                    List<Integer> left = new ArrayList<>();
                    for (int w : works) {
                        if (!now.needs(w, a, b)) {
                            left.add(w);
                        }
                    }
                    if (covers(left, twos - 1)) {
                        return true;
                    }
                }
            }
        }
        return false;
    }

    int least() {
        List<Integer> open = new ArrayList<>();
        for (int w = 0; w < now.works.size(); w++) {
            if (!now.works.get(w).done) {
                open.add(w);
            }
        }
        int n = 0;
        while (!covers(open, n)) {
            n++;
        }
        return n;
    }

    private State laid;
    private int laidStopped;

    private void tryAll(State s, List<Integer> things, List<Integer> people, int place) {
        if (place == things.size()) {
            if (laid == null || s.stopped() < laidStopped) {
                laid = s.copy();
                laidStopped = s.stopped();
            }
            return;
        }
        for (int a : people) {
            for (int b : people) {
                if (a < b) {
                    s.things.get(things.get(place))[0] = a;
                    s.things.get(things.get(place))[1] = b;
                    tryAll(s, things, people, place + 1);
                }
            }
        }
    }

    int lay(int things, int people, int k) {
        List<Integer> ts = members(things);
        List<Integer> ps = members(people);
        if (ts.isEmpty() || ts.size() > 4 || ps.size() < 2 || ps.size() > 4 || !allBelow(ts, now.things.size())
                || k < -1 || k >= ts.size()) {
            return -1;
        }
        for (int p : ps) {
            if (!now.lives(p)) {
                return -1;
            }
        }
        laid = null;
        tryAll(now.copy(), ts, ps, 0);
        return k == -1 ? laidStopped : laid.things.get(ts.get(k))[0] * 16 + laid.things.get(ts.get(k))[1];
    }

    private static boolean swapIn(State s, int t, int h, int u, int g) {
        int a = s.things.get(t)[h];
        int b = s.things.get(u)[g];
        if (t == u || a == b || s.things.get(t)[1 - h] == b || s.things.get(u)[1 - g] == a) {
            return false;
        }
        s.things.get(t)[h] = b;
        s.things.get(u)[g] = a;
        return true;
    }

    boolean swap(int t, int h, int u, int g) {
        int n = now.things.size();
        if (t < 0 || t >= n || u < 0 || u >= n || h < 0 || h > 1 || g < 0 || g > 1) {
            return false;
        }
        return swapIn(now, t, h, u, g);
    }

    private boolean trade() {
        for (int t = 0; t < now.things.size(); t++) {
            for (int h = 0; h < 2; h++) {
                for (int u = t + 1; u < now.things.size(); u++) {
                    for (int g = 0; g < 2; g++) {
                        int a = now.things.get(t)[h];
                        int b = now.things.get(u)[g];
                        int ofA = now.content(a);
                        int ofB = now.content(b);
                        if (swapIn(now, t, h, u, g)) {
                            if (now.content(a) > ofA && now.content(b) > ofB) {
                                return true;
                            }
                            now.things.get(t)[h] = a;
                            now.things.get(u)[g] = b;
                        }
                    }
                }
            }
        }
        return false;
    }

    int trades() {
        int n = 0;
        while (n < 50 && trade()) {
            n++;
        }
        return n;
    }

    int dies(int p) {
        if (!now.lives(p) || now.livingCount() < 3) {
            return -1;
        }
        int[] dead = now.people.get(p);
        dead[1] = 0;
        List<Integer> line = new ArrayList<>();
        for (int q = dead[2]; q != -1 && !line.contains(q); q = now.people.get(q)[2]) {
            line.add(q);
        }
        int taker = -1;
        for (int q : line) {
            taker = taker == -1 && now.lives(q) ? q : taker;
        }
        for (int q = 0; q < now.people.size(); q++) {
            taker = taker == -1 && now.lives(q) ? q : taker;
        }
        now.people.get(taker)[0] = Math.min(99999, now.people.get(taker)[0] + dead[0]);
        dead[0] = 0;
        int moved = 0;
        for (int[] t : now.things) {
            for (int h = 0; h < 2; h++) {
                if (t[h] == p) {
                    int mate = t[1 - h];
                    int next = -1;
                    for (int q : line) {
                        next = next == -1 && now.lives(q) && q != mate ? q : next;
                    }
                    for (int liked = 9; liked >= -9; liked--) {
                        for (int q = 0; q < now.people.size(); q++) {
                            boolean fits = now.lives(q) && q != mate && now.like[mate][q] == liked;
                            next = next == -1 && fits ? q : next;
                        }
                    }
                    t[h] = next;
                    moved++;
                }
            }
        }
        for (int q = 0; q < 12; q++) {
            now.odds[p][q] = false;
            now.odds[q][p] = false;
        }
        return moved;
    }

    int seed(int x) {
        if (x < 0) {
            return -1;
        }
        int was = (int) now.x;
        now.x = x;
        return was;
    }

    private static long draw(State s) {
        s.x = (s.x * 1103515245L + 12345L) % 2147483648L;
        return s.x / 65536 % 1000;
    }

    private static void yearIn(State s, ModelLaw law) {
        for (int a = 0; a < s.people.size(); a++) {
            for (int b = a + 1; b < s.people.size(); b++) {
                if (!s.lives(a) || !s.lives(b)) {
                    continue;
                }
                Map<String, Long> words = new HashMap<>();
                words.put("like", (long) (s.like[a][b] + s.like[b][a]));
                words.put("owns", (long) (s.owns(a) + s.owns(b)));
                words.put("near", (long) (s.near(a) + s.near(b)));
                words.put("given", (long) (s.given[a][b] + s.given[b][a]));
                words.put("shared", (long) s.shared(a, b));
                words.put("year", (long) s.year);
                if (s.odds[a][b]) {
                    if (draw(s) < Math.min(1000, law.sum("peace", words))) {
                        s.odds[a][b] = false;
                        s.odds[b][a] = false;
                    }
                } else if (s.shared(a, b) > 0) {
                    if (draw(s) < Math.min(1000, law.sum("quarrel", words))) {
                        s.odds[a][b] = true;
                        s.odds[b][a] = true;
                    }
                }
            }
        }
        s.year++;
    }

    int years(int l, int n) {
        if (!law(l) || n < 1 || n > 60 || now.year + n > 9999) {
            return -1;
        }
        for (int i = 0; i < n; i++) {
            yearIn(now, laws.get(l));
        }
        return now.quarrels();
    }

    int runs(int l, int n, int years, int what) {
        if (!law(l) || n < 1 || n > 20 || years < 0 || years > 20 || what < 0 || what > 2) {
            return -1;
        }
        int[] answer = new int[3];
        long x = now.x;
        for (int i = 0; i < n; i++) {
            State s = now.copy();
            s.x = x;
            for (int y = 0; y < years; y++) {
                yearIn(s, laws.get(l));
            }
            x = s.x;
            boolean some = false;
            for (Work w : s.works) {
                some |= canIn(s, laws.get(l), w);
            }
            answer[0] += s.quarrels();
            answer[1] += some ? 1 : 0;
            answer[2] = Math.max(answer[2], s.quarrels());
        }
        return answer[what];
    }

    int towards(int what) {
        int n = now.people.size();
        if (what == 0) {
            int[] group = new int[n];
            for (int i = 0; i < n; i++) {
                group[i] = i;
            }
            for (int a = 0; a < n; a++) {
                for (int b = 0; b < n; b++) {
                    if (now.odds[a][b]) {
                        int from = group[a];
                        int to = group[b];
                        for (int i = 0; i < n; i++) {
                            group[i] = group[i] == from ? to : group[i];
                        }
                    }
                }
            }
            int most = 0;
            for (int i = 0; i < n; i++) {
                int g = i;
                most = Math.max(most, (int) Arrays.stream(group).filter(k -> k == g).count());
            }
            return most;
        }
        if (what != 1 && what != 2) {
            return -2;
        }
        int[] best = {0, -1, -1};
        for (int a = n - 1; a >= 0; a--) {
            for (int b = n - 1; b > a; b--) {
                if (now.shared(a, b) > 0 && now.shared(a, b) >= best[0]) {
                    best = new int[] {now.shared(a, b), a, b};
                }
            }
        }
        return best[what];
    }

    int count(int what) {
        int done = 0;
        for (Work w : now.works) {
            done += w.done ? 1 : 0;
        }
        int[] all = {now.people.size(), now.livingCount(), now.things.size(), now.works.size(), done, now.quarrels(),
            laws.size(), now.row.size(), now.year, (int) now.x, tape.size()};
        return what < 0 || what > 10 ? -1 : all[what];
    }

    int image(int k) {
        if (k < 0 || k > 3) {
            return -1;
        }
        images[k] = now.copy();
        return now.people.size();
    }

    int back(int k) {
        if (k < 0 || k > 3 || images[k] == null) {
            return -1;
        }
        now = images[k].copy();
        return now.people.size();
    }
}
