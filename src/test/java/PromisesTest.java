/** Each promise by its number: ordinary inputs, edges that the document names, wrong inputs. */
public final class PromisesTest {
    private static final int NONE = OwnedByTwos.NONE;
    private static final int LOW = Integer.MIN_VALUE;
    private static final int HIGH = Integer.MAX_VALUE;

    private PromisesTest() { }

    public static void main(String[] args) {
        newObject();
        person();
        like();
        quarrel();
        heir();
        thing();
        work();
        feed();
        end();
        law();
        of();
        two();
        things();
        works();
        nod();
        had();
        can();
        bars();
        does();
        row();
        judged();
        then();
        chain();
        all();
        worth();
        share();
        stopped();
        least();
        lay();
        swap();
        trades();
        dies();
        seed();
        years();
        runs();
        towards();
        count();
        imageAndBack();
        Check.finish("PromisesTest");
    }

    private static void due(String call, long got, long want) {
        Check.due(call, got, want);
    }

    private static void due(String call, boolean got, boolean want) {
        Check.due(call, got, want);
    }

    private static OwnedByTwos town(int... coins) {
        OwnedByTwos t = new OwnedByTwos();
        for (int coin : coins) {
            t.person(coin);
        }
        return t;
    }

    private static int law(OwnedByTwos t, String text) {
        return Check.law(t, text);
    }

    private static void newObject() {
        OwnedByTwos t = new OwnedByTwos();
        for (int what = 0; what <= 10; what++) {
            due("1: count(" + what + ")", t.count(what), 0);
        }
        due("1: of", t.of(0, 0), -100);
        due("1: stopped", t.stopped(), 0);
        due("1: least", t.least(), 0);
        due("1: trades", t.trades(), 0);
        for (int k = 0; k < 4; k++) {
            due("1: back", t.back(k), NONE);
        }
    }

    private static void person() {
        OwnedByTwos t = new OwnedByTwos();
        due("2: below", t.person(-1), NONE);
        due("2: above", t.person(100000), NONE);
        due("2: lowest", t.person(LOW), NONE);
        for (int i = 0; i < 12; i++) {
            due("2: number", t.person(i == 0 ? 0 : i == 1 ? 99999 : i), i);
        }
        due("2: thirteenth", t.person(0), NONE);
        due("2: coin", t.of(1, 0), 99999);
        due("2: lives", t.of(11, 1), 1);
        due("2: no heir", t.of(11, 2), NONE);
    }

    private static void like() {
        OwnedByTwos t = town(0, 0, 0);
        due("3: first", t.like(0, 1, 9), 0);
        due("3: was", t.like(0, 1, -9), 9);
        due("3: one way", t.two(1, 0, 0), 0);
        due("3: now", t.two(0, 1, 0), -9);
        due("3: above", t.like(0, 1, 10), -100);
        due("3: below", t.like(0, 1, -10), -100);
        due("3: same", t.like(1, 1, 0), -100);
        due("3: no such", t.like(0, 3, 0), -100);
        due("3: no such", t.like(-1, 0, 0), -100);
        due("3: nothing happened", t.two(0, 1, 0), -9);
        t.dies(1);
        due("3: of one who died", t.like(1, 0, 4), 0);
        due("3: to one who died", t.like(0, 1, 4), -9);
    }

    private static void quarrel() {
        OwnedByTwos t = town(0, 0, 0);
        due("4: no more", t.quarrel(0, 1, false), false);
        due("4: begin", t.quarrel(0, 1, true), true);
        due("4: is so", t.quarrel(1, 0, true), false);
        due("4: both ways", t.two(1, 0, 1), 1);
        due("4: end", t.quarrel(1, 0, false), true);
        due("4: ended", t.two(0, 1, 1), 0);
        due("4: same", t.quarrel(1, 1, true), false);
        due("4: no such", t.quarrel(1, 3, true), false);
        due("4: no such", t.quarrel(-1, 1, true), false);
        t.dies(2);
        due("4: dead", t.quarrel(1, 2, true), false);
        due("4: dead, is so", t.quarrel(2, 1, false), false);
        due("4: none", t.count(5), 0);
    }

    private static void heir() {
        OwnedByTwos t = town(0, 0, 0);
        due("5: was none", t.heir(0, 1), NONE);
        due("5: was", t.heir(0, 2), 1);
        due("5: same", t.heir(0, 0), -2);
        due("5: no such", t.heir(0, 3), -2);
        due("5: no such", t.heir(0, -2), -2);
        due("5: no such", t.heir(3, 0), -2);
        due("5: no such", t.heir(-1, -1), -2);
        due("5: nothing happened", t.of(0, 2), 2);
        due("5: none again", t.heir(0, NONE), 2);
        due("5: none", t.of(0, 2), NONE);
        t.dies(1);
        due("5: one who died", t.heir(0, 1), NONE);
        due("5: of one who died", t.heir(1, 0), NONE);
    }

    private static void thing() {
        OwnedByTwos t = town(0, 0, 0);
        due("6: same", t.thing(1, 1, 0), NONE);
        due("6: no such", t.thing(0, 3, 0), NONE);
        due("6: no such", t.thing(-1, 0, 0), NONE);
        due("6: use", t.thing(0, 1, -1), NONE);
        due("6: use", t.thing(0, 1, 1000), NONE);
        t.dies(2);
        due("6: dead", t.thing(0, 2, 0), NONE);
        due("6: dead", t.thing(2, 0, 0), NONE);
        for (int i = 0; i < 24; i++) {
            due("6: number", t.thing(i % 2, 1 - i % 2, i == 0 ? 999 : 0), i);
        }
        due("6: a 25th", t.thing(0, 1, 0), NONE);
        due("6: how many", t.count(2), 24);
        due("6: first", t.things(1, 0), 1);
        due("6: second", t.things(1, 1), 0);
    }

    private static void work() {
        OwnedByTwos t = town(0, 0, 0);
        for (int i = 0; i < 6; i++) {
            t.thing(0, 1, 0);
        }
        t.dies(2);
        due("7: no things", t.work(0, 0, 0, 0), NONE);
        due("7: five things", t.work(0, 31, 0, 0), NONE);
        due("7: no such thing", t.work(0, 64, 0, 0), NONE);
        due("7: no such thing", t.work(0, LOW | 1, 0, 0), NONE);
        due("7: no such asker", t.work(3, 1, 0, 0), NONE);
        due("7: no such asker", t.work(-1, 1, 0, 0), NONE);
        due("7: dead asker", t.work(2, 1, 0, 0), NONE);
        due("7: worth", t.work(0, 1, -1, 0), NONE);
        due("7: worth", t.work(0, 1, 10000, 0), NONE);
        due("7: day", t.work(0, 1, 0, -1), NONE);
        due("7: day", t.work(0, 1, 0, 100), NONE);
        for (int i = 0; i < 12; i++) {
            due("7: number", t.work(0, i == 0 ? 15 : 32, i == 0 ? 9999 : 0, i == 0 ? 99 : 0), i);
        }
        due("7: a thirteenth", t.work(0, 1, 0, 0), NONE);
        due("7: things", t.works(0, 1), 15);
    }

    private static void feed() {
        OwnedByTwos t = town(0, 0);
        t.thing(0, 1, 0);
        t.work(0, 1, 0, 0);
        for (int i = 1; i <= 20; i++) {
            due("8: how many", t.feed(LOW, HIGH, -1, 0, 1), 20 * i);
        }
        due("8: above 400", t.feed(0, 0, 0, 0, 0), NONE);
        due("8: none came", t.count(10), 400);
        t.end(381);
        due("8: above 400 by one", t.feed(0, 0, 0, 0, 0), NONE);
        t.end(380);
        due("8: 400 again", t.feed(0, 0, 0, 0, 0), 400);
        t.end(0);
        due("8: bytes, the highest first",
                t.feed(Check.four("pric", 0), Check.four("e 12", 0), Check.four("345 ", 0), Check.four("- 12", 0),
                        Check.four("000 ", 0)), 20);
        due("8: it is a law", t.law(), 0);
        due("8: all bytes came", t.nod(0, 0, 0, 1), 345);
        t.feed(-1, 0, 0, 0, 0);
        due("8: a byte above 127", t.law(), -3);
    }

    private static void end() {
        OwnedByTwos t = new OwnedByTwos();
        due("9: nothing", t.end(0), 0);
        due("9: too many", t.end(1), NONE);
        t.feed(0, 0, 0, 0, 0);
        due("9: too many", t.end(21), NONE);
        due("9: below", t.end(-1), NONE);
        due("9: lowest", t.end(LOW), NONE);
        due("9: nothing happened", t.count(10), 20);
        due("9: all", t.end(20), 20);
        due("9: some", t.end(7), 7);
        due("9: not more again", t.end(8), NONE);
        due("9: how many", t.count(10), 7);
    }

    private static void law() {
        OwnedByTwos t = new OwnedByTwos();
        for (int i = 0; i < 6; i++) {
            due("10: number", law(t, "yes 1"), i);
            due("10: tape is empty", t.count(10), 0);
            if (i < 5) {
                due("10: fault", law(t, "yes"), -2 - (1 + 8 * 3));
                due("10: tape is empty", t.count(10), 0);
            }
        }
        Check.write(t, "no");
        due("10: a seventh", t.law(), NONE);
        due("10: nothing happened", t.count(10), 2);
        due("10: six", t.count(6), 6);
    }

    private static void of() {
        OwnedByTwos t = town(7, 8, 9, 10);
        t.thing(0, 1, 0);
        t.thing(1, 0, 0);
        t.thing(2, 0, 0);
        t.like(0, 1, 4);
        t.like(0, 2, -9);
        t.heir(0, 3);
        t.quarrel(0, 1, true);
        t.quarrel(0, 3, true);
        int[] want = {7, 1, 3, 3, 2, -1, 2, -100, -100};
        for (int what = 0; what < want.length; what++) {
            due("11: of(0, " + what + ")", t.of(0, what), want[what]);
        }
        due("11: below", t.of(0, -1), -100);
        due("11: no such", t.of(4, 0), -100);
        due("11: no such", t.of(-1, 0), -100);
        t.dies(0);
        int[] dead = {0, 0, 3, 0, 0, 0, 0};
        for (int what = 0; what < dead.length; what++) {
            due("11: dead of(0, " + what + ")", t.of(0, what), dead[what]);
        }
    }

    private static void two() {
        OwnedByTwos t = town(0, 0, 0, 0);
        t.thing(0, 1, 0);
        t.thing(1, 0, 0);
        t.thing(1, 2, 0);
        t.work(0, 1, 0, 0);
        t.work(3, 4, 0, 0);
        t.work(3, 5, 0, 1);
        t.like(0, 1, 3);
        t.quarrel(0, 1, true);
        due("12: like", t.two(0, 1, 0), 3);
        due("12: like back", t.two(1, 0, 0), 0);
        due("12: quarrel", t.two(1, 0, 1), 1);
        due("12: none", t.two(1, 2, 1), 0);
        due("12: shared", t.two(0, 1, 2), 2);
        due("12: shared", t.two(1, 0, 2), 2);
        due("12: not shared", t.two(0, 2, 2), 0);
        due("12: stops", t.two(0, 1, 4), 2);
        due("12: stops, asker and owner", t.two(3, 2, 4), 2);
        due("12: stops, asker and owner", t.two(0, 3, 4), 1);
        due("12: not two owners of different things", t.two(0, 2, 4), 0);
        due("12: same", t.two(1, 1, 0), -100);
        due("12: no such", t.two(1, 4, 0), -100);
        due("12: no such", t.two(-1, 1, 0), -100);
        due("12: what", t.two(0, 1, 5), -100);
        due("12: what", t.two(0, 1, -1), -100);
        t.quarrel(0, 1, false);
        law(t, "yes 1");
        t.does(0, 2);
        due("12: given", t.two(1, 3, 3), 2);
        due("12: given", t.two(2, 3, 3), 1);
        due("12: not back", t.two(3, 1, 3), 0);
        due("12: one is done", t.two(3, 2, 4), 1);
        t.does(0, 0);
        due("12: the asker's own are none", t.two(1, 0, 3), 1);
    }

    private static void things() {
        OwnedByTwos t = town(0, 0, 0);
        t.thing(2, 1, 77);
        due("13: first", t.things(0, 0), 2);
        due("13: second", t.things(0, 1), 1);
        due("13: use", t.things(0, 2), 77);
        due("13: what", t.things(0, 3), NONE);
        due("13: what", t.things(0, -1), NONE);
        due("13: no such", t.things(1, 0), NONE);
        due("13: no such", t.things(-1, 0), NONE);
    }

    private static void works() {
        OwnedByTwos t = town(0, 0);
        t.thing(0, 1, 0);
        t.thing(0, 1, 0);
        t.work(1, 2, 50, 9);
        int[] want = {1, 2, 50, 9, 0, NONE};
        for (int what = 0; what < want.length; what++) {
            due("14: works(0, " + what + ")", t.works(0, what), want[what]);
        }
        due("14: what", t.works(0, -1), NONE);
        due("14: no such", t.works(1, 0), NONE);
        due("14: no such", t.works(-1, 0), NONE);
        law(t, "yes 1");
        t.does(0, 0);
        due("14: done", t.works(0, 4), 1);
    }

    /** Two things of 1 and 2 and of 0 and 1; works of 0 with the first, with both. */
    private static OwnedByTwos nodding() {
        OwnedByTwos t = town(100, 20, 30);
        t.thing(1, 2, 5);
        t.thing(0, 1, 6);
        t.work(0, 1, 40, 3);
        t.work(0, 3, 41, 4);
        t.like(1, 0, 2);
        t.like(1, 2, -3);
        t.like(2, 0, -1);
        return t;
    }

    private static void nod() {
        OwnedByTwos t = nodding();
        int l = law(t, "yes like;price use*2");
        due("15: for nothing", t.nod(l, 0, 0, 1), 0);
        due("15: for coin", t.nod(l, 0, 0, 2), 10);
        due("15: the asker", t.nod(l, 1, 1, 0), 0);
        due("15: no law", t.nod(1, 0, 0, 1), NONE);
        due("15: no law", t.nod(-1, 0, 0, 1), NONE);
        due("15: no work", t.nod(l, 2, 0, 1), NONE);
        due("15: not of the work", t.nod(l, 0, 1, 1), NONE);
        due("15: no thing", t.nod(l, 0, 2, 1), NONE);
        due("15: no thing", t.nod(l, 0, -1, 1), NONE);
        due("15: no thing", t.nod(l, 0, 32, 1), NONE);
        due("15: no owner", t.nod(l, 0, 0, 0), NONE);
        due("15: no owner", t.nod(l, 0, 0, -1), NONE);
        t.quarrel(0, 2, true);
        due("15: quarrels", t.nod(l, 0, 0, 2), -2);
        due("15: price is held", t.nod(law(t, "price 99999"), 0, 0, 1), 9999);
        due("15: no price", t.nod(law(t, "price 0-5"), 0, 0, 1), -2);
        due("15: not", t.nod(law(t, "nods 1"), 0, 0, 1), -2);
        due("15: every word", t.nod(law(t, "price like+10*"
                + "mate*mate+worth*100-use-owns*1000+coin*10+day-given-shared*7+near+year"), 0, 0, 1),
                2 + 10 * -3 * -3 + 4000 - 5 - 2000 + 1000 + 3 - 0 - 7 + 0 + 0);
        due("15: near of the owner", t.nod(law(t, "price near*100+owns"), 0, 0, 1), 2);
        t.quarrel(1, 2, true);
        due("15: near of the owner", t.nod(5, 0, 0, 1), 102);
    }

    private static void had() {
        OwnedByTwos t = nodding();
        int both = law(t, "yes like-9;price 7+mate");
        due("16: both prices", t.had(both, 0, 0), 4 + 7);
        due("16: the asker's nod is for nothing", t.had(both, 1, 1), 9);
        int one = law(t, "price 7+mate;nods day-3");
        due("16: nods held to 1, the lesser price", t.had(one, 0, 0), 4);
        due("16: 1 of day 4, the asker's own", t.had(one, 1, 1), 0);
        t.quarrel(1, 2, true);
        due("16: both nod, but quarrel", t.had(both, 0, 0), -2);
        due("16: one is enough", t.had(one, 0, 0), 4);
        t.quarrel(0, 1, true);
        due("16: the other one's", t.had(one, 0, 0), 7);
        t.quarrel(0, 2, true);
        due("16: none nods", t.had(one, 0, 0), -2);
        due("16: no law", t.had(2, 0, 0), NONE);
        due("16: no work", t.had(0, 2, 0), NONE);
        due("16: not of the work", t.had(0, 0, 1), NONE);
        due("16: no thing", t.had(0, 0, -1), NONE);
        due("16: words of an owner are 0 in nods",
                t.had(law(t, "yes 1;nods 2+like*9+mate+owns+given+shared+near"), 1, 1), -2);
        due("16: nods above 2 are 2", t.had(law(t, "yes 1;nods 99"), 1, 1), -2);
        due("16: nods by worth, use, coin, day, year",
                t.had(law(t, "yes 1;nods 1 if worth=41 and use=6 and coin=100 and day=4 and year=0"), 1, 1), 0);
    }

    private static void can() {
        OwnedByTwos t = nodding();
        int l = law(t, "price 50");
        due("17: for all the coin", t.can(l, 0), 1);
        due("17: for more", t.can(law(t, "price 51"), 0), 0);
        due("17: no law", t.can(2, 0), NONE);
        due("17: no work", t.can(0, 2), NONE);
        due("17: no work", t.can(0, -1), NONE);
        t.work(2, 1, 0, 3);
        t.work(2, 1, 0, 4);
        int free = law(t, "yes 1");
        due("17: free", t.can(free, 2), 1);
        t.does(free, 0);
        due("17: it is done", t.can(free, 0), 0);
        due("17: a thing is taken that day", t.can(free, 2), 0);
        due("17: another day", t.can(free, 3), 1);
        t.person(0);
        t.dies(2);
        due("17: the asker is dead", t.can(free, 3), 0);
        due("17: a law by which none nods", t.can(law(t, "nods 2"), 1), 0);
    }

    private static void bars() {
        OwnedByTwos t = nodding();
        due("18: the first who doesn't", t.bars(law(t, "yes like"), 0), 2);
        due("18: of the first thing", t.bars(0, 1), 2);
        due("18: none nods: the first", t.bars(law(t, "yes 0"), 0), 1);
        int l = law(t, "yes 1");
        due("18: each can be had", t.bars(l, 1), -2);
        t.quarrel(1, 2, true);
        due("18: both nod", t.bars(l, 0), 1);
        t.quarrel(1, 2, false);
        t.quarrel(0, 1, true);
        due("18: one quarrels", t.bars(l, 0), 1);
        due("18: no law", t.bars(3, 0), NONE);
        due("18: no work", t.bars(0, 2), NONE);
        due("18: second thing", t.bars(law(t, "yes 1;nods 1 if use=5"), 1), 1);
        due("18: coin is none of it", t.bars(law(t, "price 9999;nods 1"), 0), -2);
    }

    private static void does() {
        OwnedByTwos t = nodding();
        int l = law(t, "yes like;price use");
        due("19: prices", t.does(l, 1), 5);
        due("19: asker's coin", t.of(0, 0), 100 - 5 + 41);
        due("19: owner's coin", t.of(2, 0), 35);
        due("19: owner's coin", t.of(1, 0), 20);
        due("19: done", t.works(1, 4), 1);
        due("19: two nods given", t.two(1, 0, 3), 2);
        due("19: one given", t.two(2, 0, 3), 1);
        due("19: again", t.does(l, 1), -2);
        due("19: no law", t.does(1, 0), NONE);
        due("19: no work", t.does(0, 2), NONE);
        t = town(99999, 99000, 0);
        t.thing(0, 1, 0);
        t.thing(1, 2, 0);
        t.work(0, 1, 5000, 0);
        t.work(0, 2, 9999, 0);
        l = law(t, "price 1500");
        due("19: prices", t.does(l, 0), 1500);
        due("19: coin is held", t.of(1, 0), 99999);
        due("19: less, then more, held", t.of(0, 0), 99999);
        due("19: can't be paid by what it will bring", law(t, "price 9999 if coin>0"), 1);
        t = town(9, 0, 0);
        t.thing(0, 1, 0);
        t.work(0, 1, 5000, 0);
        law(t, "price 10");
        due("19: too dear", t.does(0, 0), -2);
        due("19: nothing happened", t.of(0, 0), 9);
        t = town(50, 0, 0);
        t.thing(1, 2, 0);
        t.work(0, 1, 0, 0);
        law(t, "nods 1;price 7");
        due("19: one of alike prices", t.does(0, 0), 7);
        due("19: the first owner's", t.of(1, 0), 7);
        due("19: that one's is the nod", t.two(1, 0, 3) * 10 + t.two(2, 0, 3), 10);
    }

    private static void row() {
        OwnedByTwos t = town(0, 0);
        t.thing(0, 1, 0);
        t.work(0, 1, 0, 0);
        due("20: no such", t.row(1), -2);
        due("20: no such", t.row(-2), -2);
        for (int i = 1; i <= 12; i++) {
            due("20: how many", t.row(0), i);
        }
        due("20: a thirteenth", t.row(0), -2);
        due("20: how many", t.count(7), 12);
        due("20: empty", t.row(NONE), 0);
        due("20: how many", t.count(7), 0);
    }

    private static void judged() {
        OwnedByTwos t = nodding();
        due("21: no law", t.judged(0, 0), -2);
        due("21: no law, whatever what is", t.judged(0, 9), -2);
        int l = law(t, "price 20");
        due("21: empty row", t.judged(l, 0), NONE);
        due("21: empty row", t.judged(l, 1), 0);
        due("21: others", t.judged(l, 2), NONE);
        due("21: others", t.judged(l, -1), NONE);
        t.row(1);
        t.row(0);
        t.row(0);
        due("21: the place in the row", t.judged(l, 0), 2);
        due("21: worth before", t.judged(l, 1), 81);
        due("21: nothing changes", t.count(4), 0);
        due("21: nothing changes", t.two(1, 0, 3), 0);
        due("21: by what the ones before change", t.judged(law(t, "yes 1 if given<2"), 0), 1);
        t.row(NONE);
        t.row(1);
        due("21: all can", t.judged(l, 0), NONE);
        due("21: worth", t.judged(l, 1), 41);
    }

    private static void then() {
        OwnedByTwos t = nodding();
        int l = law(t, "price 20");
        due("22: no row", t.then(l, 0), 100);
        t.row(1);
        t.row(1);
        t.row(0);
        due("22: asker", t.then(l, 0), 100 - 60 + 41);
        due("22: first owner", t.then(l, 1), 60);
        due("22: second owner", t.then(l, 2), 50);
        due("22: nothing changes", t.of(1, 0), 20);
        due("22: no law", t.then(1, 0), NONE);
        due("22: no law", t.then(-1, 0), NONE);
        due("22: no one", t.then(l, 3), NONE);
        due("22: no one", t.then(l, -1), NONE);
    }

    private static void chain() {
        OwnedByTwos t = town(0, 0, 0, 0);
        t.thing(0, 1, 0);
        t.thing(1, 2, 0);
        t.thing(2, 0, 0);
        t.thing(2, 3, 0);
        t.work(0, 1, 0, 0);
        t.work(1, 2, 0, 0);
        t.work(2, 4, 0, 0);
        t.work(2, 4, 0, 1);
        int l = law(t, "yes like");
        due("23: a ring of nods", t.chain(l, 0), 7);
        due("23: another least set", t.chain(l, 3), 11);
        due("23: no law", t.chain(1, 0), NONE);
        due("23: no work", t.chain(l, 4), NONE);
        due("23: no work", t.chain(l, -1), NONE);
        int price = law(t, "price 9999");
        due("23: whatever the prices are", t.chain(price, 0), 1);
        int one = law(t, "yes like;nods 1");
        due("23: the asker's own is enough", t.chain(one, 0), 1);
        t.work(0, 8, 0, 5);
        due("23: one of two askers, the least number", t.chain(one, 4), 16 + 4 + 0);
        due("23: both are needed", t.chain(l, 4), -2);
        t.quarrel(0, 2, true);
        due("23: quarrels with the asker", t.chain(one, 4), -2);
        due("23: quarrel breaks the ring", t.chain(l, 0), -2);
        t.quarrel(0, 2, false);
        t.does(law(t, "yes 1"), 0);
        due("23: it is done", t.chain(l, 0), -2);
        due("23: a done one can't be in it", t.chain(l, 1), -2);
        OwnedByTwos u = town(0, 0, 0);
        u.thing(0, 1, 0);
        u.work(0, 1, 0, 7);
        u.work(1, 1, 0, 7);
        u.work(1, 1, 0, 8);
        law(u, "yes like");
        due("23: not two of one day", u.chain(0, 0), 5);
        u.like(0, 1, 1);
        u.does(0, 1);
        due("23: taken on that day", u.chain(0, 0), -2);
        u.dies(1);
        due("23: a dead asker", u.chain(0, 2), -2);
    }

    private static void all() {
        OwnedByTwos t = town(10, 10, 10);
        for (int i = 0; i < 4; i++) {
            t.thing(0, 1, 0);
        }
        t.work(0, 3, 10, 0);
        t.work(0, 1, 5, 0);
        t.work(1, 2, 5, 0);
        t.work(1, 1, 0, 1);
        int l = law(t, "yes 1");
        due("24: of alike worth the fewest, none of worth 0", t.all(l, 0), 1);
        due("24: its worth", t.all(l, 1), 10);
        t.work(1, 4, 3, 0);
        t.work(1, 4, 3, 0);
        t.work(1, 4, 9, 0);
        due("24: the greatest worth", t.all(l, 0), 1 + 64);
        t.work(0, 12, 9, 0);
        due("24: of alike ones the least", t.all(l, 0), 1 + 64);
        due("24: worth", t.all(l, 1), 19);
        due("24: other day", t.work(2, 15, 100, 9), 8);
        due("24: another day", t.all(l, 0), 1 + 64 + 256);
        int price = law(t, "price 10");
        due("24: each by itself", t.all(price, 0), 2 + 4 + 64);
        due("24: worth", t.all(price, 1), 19);
        due("24: none", t.all(law(t, "yes 0"), 0), 0);
        due("24: none", t.all(2, 1), 0);
        due("24: no law", t.all(3, 0), NONE);
        due("24: what", t.all(l, 2), NONE);
        due("24: what", t.all(l, -1), NONE);
        t.does(l, 1);
        due("24: with one that is done", t.all(l, 0), 4 + 64 + 256);
    }

    private static OwnedByTwos sharing() {
        OwnedByTwos t = town(0, 0, 0, 0, 0, 0, 0);
        t.thing(0, 1, 0);
        t.thing(1, 2, 0);
        t.work(0, 1, 10, 0);
        t.work(1, 3, 25, 0);
        t.work(1, 2, 7, 0);
        t.work(3, 2, 4, 1);
        t.quarrel(0, 1, true);
        return t;
    }

    private static void worth() {
        OwnedByTwos t = sharing();
        due("25: alone", t.worth(1), 0);
        due("25: two, though they quarrel", t.worth(3), 10);
        due("25: two", t.worth(6), 7);
        due("25: not two of one day", t.worth(7), 25);
        due("25: all", t.worth(15), 29);
        due("25: the asker as well", t.worth(14), 11);
        due("25: six", t.worth(63), 29);
        due("25: seven", t.worth(127), NONE);
        due("25: none", t.worth(0), NONE);
        due("25: no such", t.worth(128), NONE);
        due("25: no such", t.worth(LOW), NONE);
        t.quarrel(0, 1, false);
        t.does(law(t, "yes 1"), 1);
        due("25: less what is done", t.worth(7), 17);
    }

    private static void share() {
        OwnedByTwos t = sharing();
        // orders of 0, 1, 2: 012 0,10,15; 021 0,25,0; 102 10,0,15; 120 18,0,7; 201 0,25,0; 210 18,7,0
        due("26: above", t.share(7, 0, 0), 23);
        due("26: below", t.share(7, 0, 1), 3);
        due("26: above", t.share(7, 1, 0), 67);
        due("26: below", t.share(7, 1, 1), 6);
        due("26: above", t.share(7, 2, 0), 37);
        due("26: below", t.share(7, 2, 1), 6);
        due("26: nothing", t.share(7 + 16, 4, 0), 0);
        due("26: nothing in lowest terms", t.share(7 + 16, 4, 1), 1);
        due("26: alone", t.share(1, 0, 1), 1);
        due("26: one more changes nothing", t.share(7 + 32, 0, 0), 23);
        due("26: six", t.share(63, 5, 0), 0);
        due("26: seven", t.share(127, 5, 0), NONE);
        due("26: none", t.share(0, 0, 0), NONE);
        due("26: not of them", t.share(7, 3, 0), NONE);
        due("26: no such", t.share(7, -1, 0), NONE);
        due("26: no such", t.share(7, 32, 0), NONE);
        due("26: part", t.share(7, 0, 2), NONE);
        due("26: part", t.share(7, 0, -1), NONE);
        due("26: no such", t.share(129, 0, 0), NONE);
    }

    private static void stopped() {
        OwnedByTwos t = sharing();
        due("27: owners of one", t.stopped(), 2);
        t.quarrel(3, 2, true);
        due("27: asker and owner", t.stopped(), 3);
        t.quarrel(0, 2, true);
        due("27: not of different things", t.stopped(), 3);
        t.quarrel(0, 1, false);
        due("27: no more", t.stopped(), 1);
        t.quarrel(0, 2, false);
        t.quarrel(3, 2, false);
        t.does(law(t, "yes 1"), 3);
        t.quarrel(3, 2, true);
        due("27: done ones are not", t.stopped(), 0);
    }

    private static void least() {
        OwnedByTwos t = town(0, 0, 0, 0);
        t.thing(0, 1, 0);
        t.thing(2, 3, 0);
        due("28: no works", t.least(), 0);
        t.work(0, 1, 0, 0);
        due("28: one", t.least(), 1);
        t.work(2, 2, 0, 0);
        due("28: two", t.least(), 2);
        t.work(2, 1, 0, 0);
        due("28: the first two stop it too", t.least(), 2);
        t.work(0, 3, 0, 1);
        due("28: any", t.least(), 2);
        int l = law(t, "yes 1");
        t.does(l, 1);
        due("28: one is done", t.least(), 1);
        t.does(l, 0);
        t.does(l, 3);
        due("28: one is left", t.least(), 1);
        OwnedByTwos u = town(0, 0, 0, 0, 0, 0, 0, 0, 0, 0, 0, 0);
        for (int i = 0; i < 12; i++) {
            u.thing(i, (i + 1) % 12, 0);
            u.work(i, 1 << i, 0, 0);
        }
        due("28: a ring of twelve", u.least(), 12);
        law(u, "yes like");
        due("23: a ring of twelve", u.chain(0, 5), 4095);
    }

    private static void lay() {
        OwnedByTwos t = town(0, 0, 0, 0, 0);
        t.thing(0, 1, 0);
        t.thing(0, 1, 0);
        t.thing(0, 1, 0);
        t.work(0, 3, 0, 0);
        t.work(4, 4, 0, 0);
        t.quarrel(0, 1, true);
        due("29: fewest", t.lay(3, 7, -1), 1);
        due("29: the first way", t.lay(3, 7, 0), 2);
        due("29: the first way", t.lay(3, 7, 1), 2);
        due("29: the asker counts", t.lay(3, 6, -1), 2);
        due("29: of alike ones the first", t.lay(3, 6, 0), 18);
        due("29: a third thing", t.lay(6, 30, -1), 1);
        t.quarrel(1, 2, true);
        t.quarrel(0, 2, true);
        due("29: four people", t.lay(3, 15, 0), 3);
        due("29: by places of the set", t.lay(5, 15, 1), 3);
        t.quarrel(4, 0, true);
        due("29: the last differs", t.lay(5, 15, 1), 16 + 3);
        due("29: the first, stopped by another thing, is the first way's", t.lay(5, 15, 0), 1);
        due("29: nothing changes", t.things(0, 1), 1);
        due("29: k", t.lay(3, 7, 2), NONE);
        due("29: k", t.lay(3, 7, -2), NONE);
        due("29: no things", t.lay(0, 7, -1), NONE);
        due("29: no such thing", t.lay(8, 7, -1), NONE);
        due("29: one of people", t.lay(1, 1, -1), NONE);
        due("29: five of people", t.lay(1, 31, -1), NONE);
        due("29: no such one", t.lay(1, 33, -1), NONE);
        t.thing(2, 3, 0);
        t.thing(2, 3, 0);
        due("29: four things", t.lay(15, 15, 3), 1);
        due("29: five things", t.lay(31, 15, -1), NONE);
        t.dies(3);
        due("29: dead", t.lay(1, 9, -1), NONE);
    }

    private static void swap() {
        OwnedByTwos t = town(0, 0, 0, 0);
        t.thing(0, 1, 0);
        t.thing(2, 3, 0);
        t.thing(1, 2, 0);
        due("30: one thing", t.swap(0, 0, 0, 1), false);
        due("30: no such", t.swap(0, 0, 3, 1), false);
        due("30: no such", t.swap(-1, 0, 1, 1), false);
        due("30: half", t.swap(0, 2, 1, 1), false);
        due("30: half", t.swap(0, 0, 1, -1), false);
        due("30: the same one", t.swap(0, 1, 2, 0), false);
        due("30: one owner twice", t.swap(0, 0, 2, 0), false);
        due("30: one owner twice", t.swap(2, 0, 0, 0), false);
        due("30: nothing happened", t.things(0, 0), 0);
        due("30: it can be", t.swap(0, 0, 1, 1), true);
        due("30: place", t.things(0, 0), 3);
        due("30: place", t.things(1, 1), 0);
        due("30: the others stay", t.things(0, 1) * 10 + t.things(1, 0), 12);
    }

    private static void trades() {
        OwnedByTwos t = town(0, 0, 0, 0);
        t.thing(0, 1, 0);
        t.thing(2, 3, 0);
        due("31: none", t.trades(), 0);
        t.like(0, 3, 1);
        due("31: one alone", t.trades(), 0);
        t.like(2, 1, 1);
        due("31: both gain", t.trades(), 1);
        due("31: done", t.things(0, 0), 2);
        due("31: done", t.things(1, 0), 0);
        due("31: no more", t.trades(), 0);
        OwnedByTwos u = town(0, 0, 0, 0, 0, 0);
        u.thing(0, 1, 0);
        u.thing(2, 3, 0);
        u.thing(4, 5, 0);
        u.like(0, 3, 1);
        u.like(0, 5, 9);
        u.like(2, 1, 1);
        u.like(4, 1, 1);
        u.like(4, 3, 1);
        due("31: the first that can be, again and again", u.trades(), 2);
        due("31: by the order of things", u.things(0, 0) * 100 + u.things(1, 0) * 10 + u.things(2, 0), 240);
    }

    private static void dies() {
        OwnedByTwos t = town(5, 6, 7, 99998, 9);
        t.thing(0, 1, 0);
        t.thing(2, 0, 0);
        t.thing(3, 1, 0);
        t.heir(0, 2);
        t.heir(2, 0);
        t.quarrel(0, 3, true);
        t.quarrel(1, 3, true);
        t.like(2, 4, 3);
        t.like(2, 3, 3);
        t.work(0, 1, 0, 0);
        due("32: halves", t.dies(0), 2);
        due("32: to the heir", t.things(0, 0), 2);
        due("32: whom the other likes most, the least", t.things(1, 1), 3);
        due("32: coin to the heir", t.of(2, 0), 12);
        due("32: none left", t.of(0, 0), 0);
        due("32: quarrels are gone", t.count(5), 1);
        due("32: works stay", t.count(3), 1);
        due("32: dead", t.dies(0), NONE);
        t.heir(1, 0);
        t.heir(0, 3);
        due("32: by the heir's heir", t.dies(1), 2);
        due("32: coin is held", t.of(3, 0), 99999);
        due("32: the half", t.things(0, 1), 3);
        due("32: the heir owns the other half: the least who lives", t.things(2, 1), 2);
        due("32: no such", t.dies(5), NONE);
        due("32: no such", t.dies(-1), NONE);
        due("32: no heir", t.dies(4), 0);
        due("32: coin to the least who lives", t.of(2, 0), 21);
        due("32: fewer than three", t.dies(2), NONE);
        due("32: nothing happened", t.count(1), 2);
        OwnedByTwos u = town(0, 0, 0, 0);
        u.thing(0, 1, 0);
        u.like(1, 2, -9);
        u.like(1, 3, -8);
        u.dies(0);
        due("32: liked most", u.things(0, 0), 3);
    }

    private static void seed() {
        OwnedByTwos t = new OwnedByTwos();
        due("33: was 0", t.seed(5), 0);
        due("33: was", t.seed(HIGH), 5);
        due("33: below", t.seed(-1), NONE);
        due("33: nothing happened", t.seed(0), HIGH);
        due("33: lowest", t.seed(LOW), NONE);
        due("33: x", t.count(9), 0);
    }

    private static void years() {
        OwnedByTwos t = town(0, 0, 0);
        t.thing(0, 1, 0);
        t.thing(1, 2, 0);
        int sure = law(t, "quarrel 5000");
        due("34: no law", t.years(1, 1), NONE);
        due("34: none", t.years(sure, 0), NONE);
        due("34: too many", t.years(sure, 61), NONE);
        due("34: nothing happened", t.count(8) + t.count(9), 0);
        due("34: those who share", t.years(sure, 1), 2);
        due("34: two draws", t.count(9), 1406932606);
        due("34: not those who don't", t.two(0, 2, 1), 0);
        due("34: year", t.count(8), 1);
        int calm = law(t, "peace 1000 if year=1 and near=3;quarrel 1000 if year=2 and near=0 and owns=3 and shared=1");
        due("34: near as it is then", t.years(calm, 1), 1);
        due("34: a draw for a quarrel without shared", t.quarrel(0, 2, true), true);
        t.seed(0);
        t.years(calm, 1);
        due("34: three draws", t.count(9), 654583775);
        t = town(0, 0, 0);
        t.thing(0, 1, 0);
        law(t, "quarrel 468");
        law(t, "quarrel 469");
        law(t, "quarrel 469 if like=17 and mate+worth+use+coin+day=0");
        t.seed(12345);
        due("34: a draw of 468 is not below 468", t.years(0, 1), 0);
        t.seed(12345);
        due("34: but below 469", t.years(1, 1), 1);
        t.quarrel(0, 1, false);
        t.like(0, 1, 9);
        t.like(1, 0, 8);
        t.seed(12345);
        due("34: like of both, others 0", t.years(2, 1), 1);
        t.person(0);
        t.dies(3);
        for (int i = 0; i < 166; i++) {
            t.years(0, 60);
        }
        due("34: year", t.count(8), 3 + 9960);
        due("34: above 9999", t.years(0, 37), NONE);
        due("34: up to 9999", t.years(0, 36) >= 0, true);
        due("34: year", t.count(8), 9999);
        due("34: above 9999", t.years(0, 1), NONE);
    }

    private static void runs() {
        OwnedByTwos t = town(0, 0, 0);
        t.thing(0, 1, 0);
        t.thing(1, 2, 0);
        t.work(0, 1, 0, 0);
        t.seed(77);
        int l = law(t, "yes 1;quarrel 500;peace 300");
        due("35: no law", t.runs(1, 1, 1, 0), NONE);
        due("35: n", t.runs(l, 0, 1, 0), NONE);
        due("35: n", t.runs(l, 21, 1, 0), NONE);
        due("35: years", t.runs(l, 1, -1, 0), NONE);
        due("35: years", t.runs(l, 1, 21, 0), NONE);
        due("35: what", t.runs(l, 1, 1, 3), NONE);
        due("35: what", t.runs(l, 1, 1, -1), NONE);
        int together = t.runs(l, 20, 20, 0);
        int working = t.runs(l, 20, 20, 1);
        int most = t.runs(l, 20, 20, 2);
        due("35: nothing changes", t.count(9), 77);
        due("35: nothing changes", t.count(8) + t.count(5), 0);
        int sum = 0;
        int can = 0;
        int greatest = 0;
        t.image(0);
        int x = 77;
        for (int i = 0; i < 20; i++) {
            t.back(0);
            t.seed(x);
            int now = t.years(l, 20);
            sum += now;
            can += t.can(l, 0);
            greatest = Math.max(greatest, now);
            x = t.count(9);
        }
        due("35: together", together, sum);
        due("35: working", working, can);
        due("35: most", most, greatest);
        due("35: some differ", can > 0 && can < 20 && greatest < sum, true);
    }

    private static void towards() {
        OwnedByTwos t = town(0, 0, 0, 0, 0);
        due("36: without any", t.towards(0), 1);
        due("36: no things", t.towards(1), NONE);
        due("36: no things", t.towards(2), NONE);
        t.quarrel(0, 4, true);
        t.quarrel(4, 2, true);
        t.quarrel(1, 3, true);
        due("36: group", t.towards(0), 3);
        t.thing(3, 2, 0);
        t.thing(4, 1, 0);
        due("36: lesser", t.towards(1), 1);
        due("36: other", t.towards(2), 4);
        t.thing(2, 3, 0);
        due("36: lesser", t.towards(1), 2);
        due("36: other", t.towards(2), 3);
        due("36: others", t.towards(3), -2);
        due("36: others", t.towards(-1), -2);
        due("36: no people", new OwnedByTwos().towards(0), 0);
    }

    private static void count() {
        OwnedByTwos t = town(0, 0, 0, 0);
        t.thing(0, 1, 0);
        t.thing(0, 1, 0);
        t.thing(0, 2, 0);
        t.work(0, 1, 0, 0);
        t.work(0, 2, 0, 0);
        law(t, "yes 1");
        t.does(0, 1);
        t.quarrel(0, 1, true);
        t.quarrel(0, 2, true);
        t.dies(3);
        t.row(1);
        t.row(1);
        t.row(0);
        t.years(0, 5);
        t.seed(99);
        t.feed(0, 0, 0, 0, 0);
        int[] want = {4, 3, 3, 2, 1, 2, 1, 3, 5, 99, 20};
        for (int what = 0; what < want.length; what++) {
            due("37: count(" + what + ")", t.count(what), want[what]);
        }
        due("37: others", t.count(11), NONE);
        due("37: others", t.count(-1), NONE);
    }

    private static void imageAndBack() {
        OwnedByTwos t = town(1, 2, 3);
        due("38: below", t.image(-1), NONE);
        due("38: above", t.image(4), NONE);
        due("39: never made", t.back(2), NONE);
        t.thing(0, 1, 5);
        t.work(0, 1, 7, 0);
        t.row(0);
        t.like(0, 1, 4);
        t.heir(0, 1);
        t.seed(9);
        law(t, "yes 1;quarrel 1000");
        due("38: people", t.image(3), 3);
        t.person(4);
        due("38: people", t.image(0), 4);
        t.does(0, 0);
        t.years(0, 3);
        t.swap(0, 0, 0, 1);
        t.thing(2, 1, 0);
        t.work(1, 2, 0, 0);
        t.swap(0, 0, 1, 0);
        t.like(0, 1, 5);
        t.heir(0, 2);
        t.row(NONE);
        t.dies(2);
        law(t, "yes 2");
        Check.write(t, "abc");
        due("39: people", t.back(3), 3);
        int[] want = {3, 3, 1, 1, 0, 0, 2, 1, 0, 9, 3};
        for (int what = 0; what < want.length; what++) {
            due("39: count(" + what + ")", t.count(what), want[what]);
        }
        due("39: coin", t.of(0, 0), 1);
        due("39: like", t.two(0, 1, 0), 4);
        due("39: given", t.two(1, 0, 3), 0);
        due("39: heir", t.of(0, 2), 1);
        due("39: owner", t.things(0, 0), 0);
        due("39: lives", t.of(2, 1), 1);
        due("39: row", t.judged(1, 1), 7);
        due("39: the image stays", t.does(1, 0) == 0 && t.back(3) == 3 && t.works(0, 4) == 0, true);
        due("39: other images stay", t.back(0), 4);
        due("39: a person made again is new", t.back(3) * 10 + t.person(8) * 100 + t.of(3, 0), 338);
        due("39: no such", t.back(4), NONE);
        due("39: no such", t.back(-1), NONE);
        due("38: made anew", t.image(3) == 4 && t.back(3) == 4, true);
    }
}
