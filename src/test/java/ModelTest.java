import java.util.ArrayList;
import java.util.List;

/** Runs of calls by a told sequence of numbers, each answer held against the model's. */
public final class ModelTest {
    private static final String[] WORDS =
        {"like", "mate", "worth", "use", "owns", "coin", "day", "given", "shared", "near", "year"};
    private static final String[] SORTS = {"yes", "price", "nods", "quarrel", "peace"};
    private static final String[] SIGNS = {"<", "<=", "=", ">=", ">"};

    private static long state;
    private static OwnedByTwos town;
    private static Model model;
    private static List<String> calls;

    /** 0 to n - 1. */
    private static int below(int n) {
        state = state * 6364136223846793005L + 1442695040888963407L;
        return (int) ((state >>> 33) % n);
    }

    private static boolean once(int in) {
        return below(in) == 0;
    }

    private static int between(int least, int most) {
        return least + below(most - least + 1);
    }

    private static void due(String call, long got, long want) {
        calls.add(call + " = " + want);
        if (got != want && !Check.anyWrong()) {
            for (String c : calls) {
                System.out.println(c);
            }
        }
        Check.due(call, got, want);
    }

    private static void due(String call, boolean got, boolean want) {
        due(call, got ? 1 : 0, want ? 1 : 0);
    }

    public static void main(String[] args) {
        int runs = args.length > 0 ? Integer.parseInt(args[0]) : 1000;
        for (int run = 1; run <= runs; run++) {
            state = run * 7919L;
            town = new OwnedByTwos();
            model = new Model();
            calls = new ArrayList<>();
            calls.add("run " + run);
            people = once(8) ? between(0, 2) : once(2) ? between(3, 5) : between(3, 12);
            build(run);
            while (calls.size() < 510 && !Check.anyWrong()) {
                anyCall();
            }
        }
        Check.finish("ModelTest");
    }

    private static int people;
    private static int days;

    private static void build(int run) {
        days = between(0, 3);
        for (int i = 0; i < people; i++) {
            addPerson();
        }
        int things = once(4) ? between(0, 24) : between(1, 9);
        for (int i = 0; i < things; i++) {
            addThing();
        }
        int works = between(0, 12);
        for (int i = 0; i < works; i++) {
            addWork();
        }
        int likes = between(0, 30);
        for (int i = 0; i < likes; i++) {
            setLike();
        }
        int odds = between(0, 6);
        for (int i = 0; i < odds; i++) {
            setQuarrel();
        }
        int laws = between(1, 3);
        for (int i = 0; i < laws; i++) {
            addLaw();
        }
    }

    private static int aPerson() {
        return once(25) ? between(-2, 13) : below(Math.max(1, model.count(0)));
    }

    private static int aThing() {
        return once(25) ? between(-2, 25) : below(Math.max(1, model.count(2)));
    }

    private static int aWork() {
        return once(25) ? between(-2, 13) : below(Math.max(1, model.count(3)));
    }

    private static int aLaw() {
        return once(25) ? between(-2, 7) : below(Math.max(1, model.count(6)));
    }

    private static int aSet(int of, int most) {
        if (once(25)) {
            return below(Integer.MAX_VALUE) * (once(2) ? 1 : -1);
        }
        int set = 0;
        int size = between(1, most);
        for (int i = 0; i < size; i++) {
            set |= 1 << below(Math.max(1, of) + (once(40) ? 1 : 0));
        }
        return set;
    }

    private static void addPerson() {
        int coin = once(9) ? between(99000, 100001) : once(9) ? between(-2, 3) : below(400);
        due("person(" + coin + ")", town.person(coin), model.person(coin));
    }

    private static void addThing() {
        int a = aPerson();
        int b = aPerson();
        int use = once(9) ? between(-1, 1001) : below(9);
        due("thing(" + a + ", " + b + ", " + use + ")", town.thing(a, b, use), model.thing(a, b, use));
    }

    private static void addWork() {
        int a = aPerson();
        int set = aSet(model.count(2), 4);
        int worth = once(9) ? between(-1, 10001) : below(12);
        int day = once(20) ? between(-1, 101) : between(0, days);
        due("work(" + a + ", " + set + ", " + worth + ", " + day + ")", town.work(a, set, worth, day),
                model.work(a, set, worth, day));
    }

    private static void setLike() {
        int a = aPerson();
        int b = aPerson();
        int n = once(20) ? between(-11, 11) : between(-9, 9);
        due("like(" + a + ", " + b + ", " + n + ")", town.like(a, b, n), model.like(a, b, n));
    }

    private static void setQuarrel() {
        int a = aPerson();
        int b = aPerson();
        boolean is = once(2);
        due("quarrel(" + a + ", " + b + ", " + is + ")", town.quarrel(a, b, is), model.quarrel(a, b, is));
    }

    private static String value() {
        int most = once(12) ? once(12) ? 10000000 : 100000 : 12;
        return once(3) ? "" + below(most) : WORDS[below(11)];
    }

    private static String sum() {
        StringBuilder text = new StringBuilder(value());
        while (once(2)) {
            text.append(blank()).append("+-*/".charAt(below(4))).append(blank()).append(value());
        }
        return text.toString();
    }

    private static String blank() {
        return once(3) ? once(5) ? "  " : " " : "";
    }

    private static String fact(int depth) {
        if (depth < 12 && once(once(40) ? 1 : 5)) {
            return once(2) ? "not " + fact(depth + 1) : "[" + blank() + test(depth + 1) + blank() + "]";
        }
        return sum() + blank() + SIGNS[below(5)] + blank() + sum();
    }

    private static String test(int depth) {
        StringBuilder text = new StringBuilder(fact(depth));
        while (once(3)) {
            text.append(once(2) ? " and " : " or ").append(fact(depth));
        }
        return text.toString();
    }

    private static String lawText() {
        StringBuilder text = new StringBuilder();
        if (once(3)) {
            text.append(once(2) ? "yes like" : "yes mate-1").append(once(2) ? "" : ";price use").append(";");
            text.append(once(2) ? "nods 1 if day=0;" : "");
        }
        int clauses = once(15) ? between(11, 14) : between(1, 7);
        for (int i = 0; i < clauses; i++) {
            String sort = SORTS[below(5)];
            text.append(i == 0 ? "" : ";").append(blank()).append(sort).append(" ");
            if (sort.equals("quarrel") || sort.equals("peace")) {
                text.append(below(900)).append("+");
            }
            text.append(once(40) ? "12345+1*1*1*1*1*1*1*1*1*1*1*1*1*1*1*1*1*1*1*1*1*1*1*1*1*1*1+" : "").append(sum());
            text.append(once(2) ? " if " + test(0) : "");
        }
        if (once(40)) {
            text.append(" if ").append("[ not ".repeat(between(4, 6)));
        }
        for (int n = once(4) ? between(1, 2) : 0; n > 0; n--) {
            int place = below(text.length() + 1);
            String any = "0123456789[];<>=+-*/ abcdefilnoprstuyQ" + (char) 0 + (char) 200 + (char) 255;
            char c = any.charAt(below(any.length()));
            if (once(3) && place < text.length()) {
                text.deleteCharAt(place);
            } else if (once(2) && place < text.length()) {
                text.setCharAt(place, c);
            } else {
                text.insert(place, c);
            }
        }
        return text.length() > 400 ? text.substring(0, 400) : text.toString();
    }

    private static void feedText(String text) {
        int length = model.count(10) + text.length();
        for (int i = 0; i < text.length(); i += 20) {
            int[] n = new int[5];
            for (int k = 0; k < 5; k++) {
                n[k] = Check.four(text, i + 4 * k);
            }
            due("feed(" + n[0] + ", " + n[1] + ", " + n[2] + ", " + n[3] + ", " + n[4] + ")",
                    town.feed(n[0], n[1], n[2], n[3], n[4]), model.feed(n[0], n[1], n[2], n[3], n[4]));
        }
        due("end(" + length + ")", town.end(length), model.end(length));
    }

    private static void addLaw() {
        String text = lawText();
        calls.add("// " + text);
        feedText(text);
        due("law()", town.law(), model.law());
    }

    private static void anyCall() {
        int sort = below(100);
        if (sort < 12) {
            change();
        } else if (sort < 20) {
            textCall();
        } else if (sort < 40) {
            look();
        } else if (sort < 65) {
            workCall();
        } else if (sort < 85) {
            setCall();
        } else {
            timeCall();
        }
    }

    private static void change() {
        int a = aPerson();
        int b = once(5) ? -1 : aPerson();
        switch (below(9)) {
            case 0: addPerson(); break;
            case 1: addThing(); break;
            case 2: addWork(); break;
            case 3: case 4: setLike(); break;
            case 5: case 6: setQuarrel(); break;
            default: due("heir(" + a + ", " + b + ")", town.heir(a, b), model.heir(a, b)); break;
        }
    }

    private static void textCall() {
        int n = below(30);
        if (once(4)) {
            due("end(" + n + ")", town.end(n), model.end(n));
        } else if (once(12)) {
            due("law()", town.law(), model.law());
        } else if (calls.size() < 450) {
            addLaw();
        }
    }

    private static void look() {
        int a = aPerson();
        int b = aPerson();
        int t = aThing();
        int w = aWork();
        int what = once(15) ? between(-2, 12) : below(7);
        switch (below(6)) {
            case 0: due("of(" + a + ", " + what + ")", town.of(a, what), model.of(a, what)); break;
            case 1: due("two(" + a + ", " + b + ", " + what + ")", town.two(a, b, what), model.two(a, b, what)); break;
            case 2: due("things(" + t + ", " + what + ")", town.things(t, what), model.things(t, what)); break;
            case 3: due("works(" + w + ", " + what + ")", town.works(w, what), model.works(w, what)); break;
            case 4: due("towards(" + what + ")", town.towards(what), model.towards(what)); break;
            default:
                what = between(-1, 11);
                due("count(" + what + ")", town.count(what), model.count(what));
                break;
        }
    }

    private static void workCall() {
        int l = aLaw();
        int w = aWork();
        int t = aThing();
        int a = aPerson();
        if (model.works(w, 1) > 0 && !once(9)) {
            int bits = model.works(w, 1);
            do {
                t = below(24);
            } while ((bits >> t & 1) == 0);
            a = once(9) ? a : model.things(t, below(2));
        }
        int what = once(15) ? between(-1, 3) : below(2);
        switch (below(12)) {
            case 0: case 1:
                due("nod(" + l + ", " + w + ", " + t + ", " + a + ")", town.nod(l, w, t, a), model.nod(l, w, t, a));
                break;
            case 2: case 3: due("had(" + l + ", " + w + ", " + t + ")", town.had(l, w, t), model.had(l, w, t)); break;
            case 4: due("can(" + l + ", " + w + ")", town.can(l, w), model.can(l, w)); break;
            case 5: due("bars(" + l + ", " + w + ")", town.bars(l, w), model.bars(l, w)); break;
            case 6: due("does(" + l + ", " + w + ")", town.does(l, w), model.does(l, w)); break;
            case 7: case 8:
                w = once(20) ? -1 : w;
                due("row(" + w + ")", town.row(w), model.row(w));
                break;
            case 9: due("then(" + l + ", " + a + ")", town.then(l, a), model.then(l, a)); break;
            default: due("judged(" + l + ", " + what + ")", town.judged(l, what), model.judged(l, what)); break;
        }
    }

    private static void setCall() {
        int l = aLaw();
        int w = aWork();
        int what = once(15) ? between(-1, 3) : below(2);
        int set = aSet(model.count(0), 7);
        int p = aPerson();
        switch (below(9)) {
            case 0: case 1: due("chain(" + l + ", " + w + ")", town.chain(l, w), model.chain(l, w)); break;
            case 2: due("all(" + l + ", " + what + ")", town.all(l, what), model.all(l, what)); break;
            case 3: due("worth(" + set + ")", town.worth(set), model.worth(set)); break;
            case 4: case 5:
                p = once(9) || Integer.bitCount(set) == 0 ? p : Integer.numberOfTrailingZeros(set);
                due("share(" + set + ", " + p + ", " + what + ")", town.share(set, p, what),
                        model.share(set, p, what));
                break;
            case 6: due("stopped()", town.stopped(), model.stopped()); break;
            case 7: due("least()", town.least(), model.least()); break;
            default:
                set = aSet(model.count(2), once(9) ? 5 : 3);
                int who = aSet(model.count(0), 5);
                int k = between(-1, once(9) ? 4 : 2);
                due("lay(" + set + ", " + who + ", " + k + ")", town.lay(set, who, k), model.lay(set, who, k));
                break;
        }
    }

    private static void timeCall() {
        int l = aLaw();
        int t = aThing();
        int u = aThing();
        int h = once(20) ? between(-1, 2) : below(2);
        int g = once(20) ? between(-1, 2) : below(2);
        int n = once(9) ? between(-1, 62) : between(1, 4);
        int k = once(9) ? between(-1, 5) : below(4);
        switch (below(12)) {
            case 0: case 1: case 2:
                due("swap(" + t + ", " + h + ", " + u + ", " + g + ")", town.swap(t, h, u, g),
                        model.swap(t, h, u, g));
                break;
            case 3: if (once(4)) due("trades()", town.trades(), model.trades()); break;
            case 4:
                int p = aPerson();
                if (once(3)) due("dies(" + p + ")", town.dies(p), model.dies(p));
                break;
            case 5:
                int x = below(Integer.MAX_VALUE) - 100000;
                due("seed(" + x + ")", town.seed(x), model.seed(x));
                break;
            case 6: case 7: due("years(" + l + ", " + n + ")", town.years(l, n), model.years(l, n)); break;
            case 8: case 9:
                int y = between(-1, once(5) ? 21 : 4);
                n = between(0, once(5) ? 21 : 4);
                int what = once(9) ? between(-1, 3) : below(3);
                due("runs(" + l + ", " + n + ", " + y + ", " + what + ")", town.runs(l, n, y, what),
                        model.runs(l, n, y, what));
                break;
            case 10: due("image(" + k + ")", town.image(k), model.image(k)); break;
            default: if (once(2)) due("back(" + k + ")", town.back(k), model.back(k)); break;
        }
    }
}
