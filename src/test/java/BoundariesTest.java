/**
 * Each boundary that a promise names, in a test of its own: what is still taken, what is refused first, the empty
 * and the full case; and where nothing happens, that all which shows the state answers as before.
 */
public final class BoundariesTest {
    private static final int NONE = OwnedByTwos.NONE;
    private static final int LOW = Integer.MIN_VALUE;
    private static final int HIGH = Integer.MAX_VALUE;
    private static final int FAULT_AT_0 = -2 - 1;

    private BoundariesTest() { }

    public static void main(String[] args) throws IllegalAccessException {
        Check.runAll(BoundariesTest.class, "promise", 39);
        Check.finish("BoundariesTest");
    }

    private static void due(String call, long got, long want) {
        Check.due(call, got, want);
    }

    private static void due(String call, boolean got, boolean want) {
        Check.due(call, got, want);
    }

    private static void stays(String name, Shown.Maker maker, Shown.Call call, long want) {
        Shown.nothingHappens(name, maker, call, want);
    }

    private static int law(OwnedByTwos t, String text) {
        return Check.law(t, text);
    }

    private static long bit(boolean is) {
        return is ? 1 : 0;
    }

    // ---- 1: a new object

    static void promise1Nobody() {
        OwnedByTwos t = Towns.bare();
        due("1: people", t.count(0), 0);
        due("1: living", t.count(1), 0);
        due("1: of nobody", t.of(0, 0), -100);
        due("1: two of nobody", t.two(0, 1, 0), -100);
        due("1: like of nobody", t.like(0, 1, 0), -100);
        due("1: heir of nobody", t.heir(0, NONE), -2);
        due("1: quarrel of nobody", t.quarrel(0, 1, false), false);
        due("1: nobody dies", t.dies(0), NONE);
        due("1: worth of nobody", t.worth(1), NONE);
        due("1: share of nobody", t.share(1, 0, 0), NONE);
        due("1: quarrels", t.count(5), 0);
        due("1: no group", t.towards(0), 0);
        due("1: the first one's number", t.person(0), 0);
    }

    static void promise1Nothing() {
        OwnedByTwos t = Towns.bare();
        due("1: things", t.count(2), 0);
        due("1: works", t.count(3), 0);
        due("1: done", t.count(4), 0);
        due("1: of no thing", t.things(0, 0), NONE);
        due("1: of no work", t.works(0, 0), NONE);
        due("1: no swap", t.swap(0, 0, 1, 0), false);
        due("1: no trades", t.trades(), 0);
        due("1: none stopped", t.stopped(), 0);
        due("1: least", t.least(), 0);
        due("1: lay of nothing", t.lay(1, 3, -1), NONE);
        due("1: closest", t.towards(1), NONE);
        due("1: closest", t.towards(2), NONE);
        due("1: row", t.count(7), 0);
        due("1: no work for the row", t.row(0), -2);
        due("1: year", t.count(8), 0);
        due("1: x", t.count(9), 0);
        for (int k = 0; k < 4; k++) {
            due("1: no image " + k, t.back(k), NONE);
        }
    }

    static void promise1NoLaws() {
        OwnedByTwos t = Towns.bare();
        due("1: laws", t.count(6), 0);
        due("1: tape", t.count(10), 0);
        due("1: judged without laws", t.judged(0, 0), -2);
        due("1: years without laws", t.years(0, 1), NONE);
        due("1: runs without laws", t.runs(0, 1, 0, 0), NONE);
        due("1: all without laws", t.all(0, 0), NONE);
        due("1: the empty tape is no law", t.law(), FAULT_AT_0);
        due("1: the first law's number", law(t, "yes 1"), 0);
    }

    // ---- 2: person

    static void promise2ThereAreTwelve() {
        OwnedByTwos t = Towns.bare();
        for (int i = 0; i < 12; i++) {
            due("2: number", t.person(0), i);
        }
        due("2: a thirteenth", t.person(0), NONE);
        due("2: twelve stay", t.count(0), 12);
        stays("2: a thirteenth changes nothing", Towns::full, x -> x.person(5), NONE);
    }

    static void promise2CoinAsTold() {
        Shown.range("2: coin", Towns::small, (t, n) -> t.person(n), 0, 99999, NONE);
        OwnedByTwos t = Towns.with(0, 99999);
        due("2: least coin", t.of(0, 0), 0);
        due("2: most coin", t.of(1, 0), 99999);
        due("2: a refused one takes no number", t.person(100000) == NONE && t.person(1) == 2, true);
    }

    // ---- 3: like

    static void promise3LikeAsTold() {
        Shown.range("3: like", Towns::small, (t, n) -> t.like(0, 1, n), -9, 9, -100);
        OwnedByTwos t = Towns.people(2);
        due("3: it was 0 at first", t.like(0, 1, -9), 0);
        due("3: the least", t.like(0, 1, 9), -9);
        due("3: the most", t.like(0, 1, 0), 9);
        due("3: 0 again", t.two(0, 1, 0), 0);
    }

    static void promise3WithoutThese() {
        Shown.range("3: of", Towns::small, (t, n) -> t.like(n, n == 3 ? 0 : 3, 5), 0, 3, -100);
        Shown.range("3: to", Towns::small, (t, n) -> t.like(n == 3 ? 0 : 3, n, 5), 0, 3, -100);
        OwnedByTwos t = Towns.people(12);
        due("3: the last two", t.like(11, 10, 3), 0);
        due("3: no thirteenth", t.like(11, 12, 3), -100);
    }

    static void promise3Unlike() {
        for (int n = 0; n < 4; n++) {
            int one = n;
            stays("3: one to himself", Towns::small, t -> t.like(one, one, 1), -100);
        }
    }

    // ---- 4: quarrel

    static void promise4ItIsSo() {
        stays("4: they quarrel", Towns::small, t -> bit(t.quarrel(0, 3, true)), 0);
        stays("4: they quarrel, the other way", Towns::small, t -> bit(t.quarrel(3, 0, true)), 0);
        stays("4: they don't", Towns::small, t -> bit(t.quarrel(0, 2, false)), 0);
        OwnedByTwos t = Towns.small();
        due("4: no more", t.quarrel(3, 0, false), true);
        due("4: it is so now", t.quarrel(0, 3, false), false);
        due("4: again", t.quarrel(0, 3, true), true);
    }

    static void promise4NotTwo() {
        Shown.range("4: one", Towns::small, (t, n) -> bit(t.quarrel(n, n == 2 ? 1 : 2, n != 3)), 0, 3, 0);
        Shown.range("4: other", Towns::small, (t, n) -> bit(t.quarrel(n == 1 ? 2 : 1, n, n != 4)), 0, 3, 0);
        stays("4: the same one", Towns::small, t -> bit(t.quarrel(1, 1, true)), 0);
        stays("4: the same one", Towns::small, t -> bit(t.quarrel(1, 1, false)), 0);
    }

    static void promise4WhoLive() {
        stays("4: a dead one", Towns::bereaved, t -> bit(t.quarrel(3, 1, true)), 0);
        stays("4: with a dead one", Towns::bereaved, t -> bit(t.quarrel(1, 3, true)), 0);
        stays("4: peace with a dead one", Towns::bereaved, t -> bit(t.quarrel(0, 3, false)), 0);
        due("4: those who live", Towns.bereaved().quarrel(1, 2, true), true);
    }

    static void promise4AllTwos() {
        OwnedByTwos t = Towns.people(12);
        for (int one = 0; one < 12; one++) {
            for (int other = 0; other < one; other++) {
                due("4: each two", t.quarrel(one, other, true), true);
            }
        }
        due("4: all of them", t.count(5), 66);
        due("4: of the last", t.of(11, 4), 11);
    }

    // ---- 5: heir

    static void promise5NoneIsNone() {
        OwnedByTwos t = Towns.people(3);
        due("5: none at first", t.heir(0, NONE), NONE);
        due("5: none still", t.heir(0, 2), NONE);
        due("5: it was", t.heir(0, NONE), 2);
        due("5: none again", t.of(0, 2), NONE);
    }

    static void promise5WithoutThese() {
        Shown.range("5: of", Towns::small, (t, n) -> t.heir(n, n == 3 ? 0 : 3), 0, 3, -2);
        Shown.range("5: of, to none", Towns::small, (t, n) -> t.heir(n, NONE), 0, 3, -2);
        stays("5: to -2", Towns::small, t -> t.heir(0, -2), -2);
        stays("5: to one too high", Towns::small, t -> t.heir(0, 4), -2);
        stays("5: to the lowest", Towns::small, t -> t.heir(0, LOW), -2);
        stays("5: to the highest", Towns::small, t -> t.heir(0, HIGH), -2);
        due("5: to the last", Towns.small().heir(0, 3), 1);
        due("5: to the first", Towns.small().heir(1, 0), 2);
    }

    static void promise5Unlike() {
        stays("5: his own heir", Towns::small, t -> t.heir(0, 0), -2);
        stays("5: his own heir", Towns::small, t -> t.heir(3, 3), -2);
    }

    // ---- 6: thing

    static void promise6ThereAreTwentyFour() {
        OwnedByTwos t = Towns.people(2);
        for (int i = 0; i < 24; i++) {
            due("6: number", t.thing(0, 1, 0), i);
        }
        due("6: a 25th", t.thing(0, 1, 0), NONE);
        due("6: 24 stay", t.count(2), 24);
        stays("6: a 25th changes nothing", Towns::full, x -> x.thing(0, 1, 0), NONE);
    }

    static void promise6UseAsTold() {
        Shown.range("6: use", Towns::small, (t, n) -> t.thing(0, 1, n), 0, 999, NONE);
        OwnedByTwos t = Towns.people(2);
        t.thing(0, 1, 0);
        t.thing(0, 1, 999);
        due("6: least use", t.things(0, 2), 0);
        due("6: most use", t.things(1, 2), 999);
        due("6: a refused one takes no number", t.thing(0, 1, 1000) == NONE && t.thing(0, 1, 1) == 2, true);
    }

    static void promise6OwnersAsTold() {
        Shown.range("6: first", Towns::small, (t, n) -> t.thing(n, n == 3 ? 0 : 3, 1), 0, 3, NONE);
        Shown.range("6: second", Towns::small, (t, n) -> t.thing(n == 3 ? 0 : 3, n, 1), 0, 3, NONE);
    }

    static void promise6OwnersWhoLive() {
        stays("6: first is dead", Towns::bereaved, t -> t.thing(3, 0, 1), NONE);
        stays("6: second is dead", Towns::bereaved, t -> t.thing(0, 3, 1), NONE);
        due("6: they live", Towns.bereaved().thing(0, 2, 1), 3);
    }

    static void promise6OwnersUnlike() {
        stays("6: the same twice", Towns::small, t -> t.thing(2, 2, 1), NONE);
        stays("6: the same twice", Towns::small, t -> t.thing(0, 0, 1), NONE);
    }

    // ---- 7: work

    static void promise7ThereAreTwelve() {
        OwnedByTwos t = Towns.people(2);
        Towns.things(t, 1);
        for (int i = 0; i < 12; i++) {
            due("7: number", t.work(0, 1, 0, 0), i);
        }
        due("7: a thirteenth", t.work(0, 1, 0, 0), NONE);
        due("7: twelve stay", t.count(3), 12);
        stays("7: a thirteenth changes nothing", Towns::full, x -> x.work(0, 1, 0, 0), NONE);
    }

    static void promise7OneToFourThings() {
        OwnedByTwos t = Towns.people(2);
        Towns.things(t, 24);
        due("7: none", t.work(0, 0, 0, 0), NONE);
        due("7: one", t.work(0, 1 << 23, 0, 0), 0);
        due("7: four", t.work(0, 0xf << 20, 0, 0), 1);
        due("7: five", t.work(0, 0x1f << 19, 0, 0), NONE);
        due("7: all", t.work(0, 0xffffff, 0, 0), NONE);
        due("7: four are kept", t.works(1, 1), 0xf << 20);
        stays("7: none changes nothing", Towns::small, x -> x.work(0, 0, 1, 1), NONE);
        stays("7: five change nothing", () -> {
            OwnedByTwos x = Towns.small();
            Towns.things(x, 2);
            return x;
        }, x -> x.work(0, 31, 1, 1), NONE);
    }

    static void promise7ThingsThatThereAre() {
        stays("7: none there is", Towns::small, t -> t.work(0, 8, 1, 1), NONE);
        stays("7: one that is not among them", Towns::small, t -> t.work(0, 9, 1, 1), NONE);
        stays("7: the lowest number", Towns::small, t -> t.work(0, LOW, 1, 1), NONE);
        stays("7: the highest bit and one", Towns::small, t -> t.work(0, LOW | 1, 1, 1), NONE);
        stays("7: all bits", Towns::small, t -> t.work(0, -1, 1, 1), NONE);
        due("7: all there are", Towns.small().work(0, 7, 1, 1), 4);
        OwnedByTwos t = Towns.people(2);
        Towns.things(t, 24);
        due("7: the last thing", t.work(0, 1 << 23, 0, 0), 0);
        due("7: one behind the last", t.work(0, 1 << 24, 0, 0), NONE);
        due("7: no things at all", Towns.people(2).work(0, 1, 0, 0), NONE);
    }

    static void promise7WorthAsTold() {
        Shown.range("7: worth", Towns::small, (t, n) -> t.work(0, 1, n, 0), 0, 9999, NONE);
        OwnedByTwos t = Towns.small();
        t.work(0, 1, 9999, 0);
        t.work(0, 1, 0, 0);
        due("7: most", t.works(4, 2), 9999);
        due("7: least", t.works(5, 2), 0);
    }

    static void promise7DayAsTold() {
        Shown.range("7: day", Towns::small, (t, n) -> t.work(0, 1, 0, n), 0, 99, NONE);
        OwnedByTwos t = Towns.small();
        t.work(0, 1, 0, 99);
        t.work(0, 1, 0, 0);
        due("7: last", t.works(4, 3), 99);
        due("7: first", t.works(5, 3), 0);
    }

    static void promise7AskerWhoLives() {
        Shown.range("7: asker", Towns::small, (t, n) -> t.work(n, 1, 0, 0), 0, 3, NONE);
        stays("7: a dead asker", Towns::bereaved, t -> t.work(3, 1, 0, 0), NONE);
        due("7: a living one", Towns.bereaved().work(2, 1, 0, 0), 4);
    }

    // ---- 8: feed

    static void promise8MoreThan400() {
        OwnedByTwos t = Towns.bare();
        for (int i = 1; i <= 20; i++) {
            due("8: how many", t.feed(0, 0, 0, 0, 0), 20 * i);
        }
        due("8: 420", t.feed(0, 0, 0, 0, 0), NONE);
        due("8: 400 stay", t.count(10), 400);
        due("8: one too many", t.end(381) == 381 && t.feed(0, 0, 0, 0, 0) == NONE, true);
        due("8: 381 stay", t.count(10), 381);
        due("8: just as many", t.end(380) == 380 && t.feed(0, 0, 0, 0, 0) == 400, true);
    }

    static void promise8NoneComes() {
        stays("8: full", Towns::full, t -> t.feed(1, 2, 3, 4, 5), NONE);
        stays("8: one too many", () -> {
            OwnedByTwos t = Towns.small();
            Check.write(t, " ".repeat(381 - t.count(10)));
            return t;
        }, t -> t.feed(-1, -1, -1, -1, -1), NONE);
    }

    static void promise8TheHighestFirst() {
        OwnedByTwos t = Towns.small();
        t.end(0);
        t.feed(0x70726963, 0x65203132, 0x33342d31, 0x2a32332b, 0x34352020);
        due("8: price 1234-1*23+45", t.law(), 2);
        due("8: by all twenty", t.nod(2, 0, 0, 1), 1234 - 23 + 45);
    }

    static void promise8BytesWithTheHighestBit() {
        int[] places = {24, 16, 8, 0};
        for (int i = 0; i < 4; i++) {
            OwnedByTwos t = Towns.bare();
            int number = 0x20202020 & ~(255 << places[i]) | 0xa0 << places[i];
            t.feed(number, -1, -1, -1, -1);
            due("8: the first byte that is no blank", t.law(), FAULT_AT_0 - 8 * i);
        }
    }

    // ---- 9: end

    static void promise9NotSoMany() {
        OwnedByTwos t = Towns.bare();
        due("9: an empty one", t.end(0), 0);
        due("9: more than it has", t.end(1), NONE);
        Shown.range("9: n", Towns::small, (x, n) -> x.end(n), 0, 16, NONE);
        Shown.range("9: n of a full one", Towns::full, (x, n) -> x.end(n), 0, 400, NONE);
    }

    static void promise9ItsFirstAlone() {
        OwnedByTwos t = Towns.bare();
        Check.write(t, "yes 1;no");
        due("9: all of them", t.end(8), 8);
        due("9: the first five", t.end(5), 5);
        due("9: no way back", t.end(6), NONE);
        due("9: five are a law", t.law(), 0);
        Check.write(t, "yes 1");
        due("9: none", t.end(0), 0);
        due("9: nothing is left", t.law(), FAULT_AT_0);
    }

    /** Bytes that were cut off are no part of what stands before them. */
    static void promise9WhatIsCutOffIsGone() {
        String[] texts = {"yes 1 if day<=1", "yes 12", "yes dayday", "yes 1;yes", "yes 1 if 1=1 and", "yesterday"};
        int[] ends = {13, 5, 7, 5, 12, 3};
        int[] want = {FAULT_AT_0 - 8 * 13, 0, 0, 0, 0, FAULT_AT_0 - 8 * 3};
        for (int i = 0; i < texts.length; i++) {
            OwnedByTwos t = Towns.bare();
            Check.write(t, texts[i]);
            due("9: " + texts[i] + " cut to " + ends[i], t.end(ends[i]), ends[i]);
            due("9: " + texts[i] + " cut to " + ends[i], t.law(), want[i]);
        }
    }

    static void promise9MoreComesBehindTheEnd() {
        OwnedByTwos t = Towns.bare();
        Check.write(t, "yes 1;no");
        t.end(6);
        Check.write(t, "price 7");
        due("9: 13 now", t.count(10), 13);
        due("9: a law of both", t.law(), 0);
    }

    // ---- 10: law

    static void promise10ThereAreSix() {
        OwnedByTwos t = Towns.bare();
        for (int i = 0; i < 6; i++) {
            due("10: number", law(t, "yes 1"), i);
        }
        Check.write(t, "yes 1");
        due("10: a seventh", t.law(), NONE);
        due("10: the tape stays", t.count(10), 5);
        due("10: six stay", t.count(6), 6);
        stays("10: a seventh changes nothing", Towns::full, x -> x.law(), NONE);
    }

    static void promise10SeventhIsNoneThoughItHasAFault() {
        OwnedByTwos t = Towns.full();
        t.end(3);
        due("10: a seventh with a fault", t.law(), NONE);
        due("10: the tape stays", t.count(10), 3);
    }

    static void promise10EmptyThen() {
        OwnedByTwos t = Towns.bare();
        due("10: a law", law(t, "yes 1"), 0);
        due("10: empty then", t.count(10), 0);
        due("10: a fault", law(t, "yes 1 1"), FAULT_AT_0 - 8 * 6);
        due("10: empty then", t.count(10), 0);
        due("10: a fault is no law", t.count(6), 1);
        due("10: the next number", law(t, "yes 1"), 1);
    }

    static void promise10FaultOfAnEmptyTape() {
        OwnedByTwos t = Towns.bare();
        due("10: place 0", t.law(), -3);
        due("10: the last place", law(t, " ".repeat(400)), -2 - (1 + 8 * 400));
    }

    static void promise10AFaultLeavesLawsAsTheyWere() {
        OwnedByTwos t = Towns.small();
        t.end(0);
        int nod = t.nod(0, 0, 0, 2);
        due("10: a fault", law(t, "price 99;"), FAULT_AT_0 - 8 * 9);
        due("10: law 0 as it was", t.nod(0, 0, 0, 2), nod);
        due("10: no law 2", t.nod(2, 0, 0, 2), NONE);
    }

    /** What a text that was no LAW had before its FAULT is no part of the next one, and counts for nothing there. */
    static void promise10AFaultLeavesNothingForTheNext() {
        OwnedByTwos t = Towns.small();
        t.end(0);
        due("10: a fault behind a clause", law(t, "price 5;no"), FAULT_AT_0 - 8 * 8);
        due("10: the next one", law(t, "price 7"), 2);
        due("10: by its own clause", t.nod(2, 0, 0, 2), 7);
        due("10: sixty and a fault", law(t, "price 1" + "+1".repeat(59) + ";"), FAULT_AT_0 - 8 * 126);
        due("10: sixty again", law(t, "price 1" + "+1".repeat(59)), 3);
        due("10: sixty and once more", law(t, "price 2" + "+1".repeat(59)), 4);
        for (int i = 0; i < 6; i++) {
            due("10: sixty and a fault, again and again", law(t, "price 1" + "+1".repeat(59) + ";"), FAULT_AT_0 - 8 * 126);
        }
        due("10: twelve and a fault", law(t, "price 5;".repeat(12)), FAULT_AT_0 - 8 * 96);
        due("10: twelve again", law(t, "price 5 if 1=2;".repeat(11) + "price 9"), 5);
        due("10: by the last one", t.nod(5, 0, 0, 2), 9);
        due("10: by sixty", t.nod(3, 0, 0, 2) * 100 + t.nod(4, 0, 0, 2), 6061);
    }

    // ---- 11 to 14: of, two, things, works

    static void promise11WithoutThese() {
        Shown.range("11: person", Towns::small, (t, n) -> t.of(n, 0), 0, 3, -100);
        Shown.range("11: person of twelve", Towns::full, (t, n) -> t.of(n, 0), 0, 11, -100);
        Shown.range("11: what", Towns::small, (t, n) -> t.of(0, n), 0, 6, -100);
        due("11: both wrong", Towns.small().of(4, 7), -100);
    }

    static void promise11NoneAndMost() {
        OwnedByTwos t = Towns.people(12);
        int[] bare = {0, 1, NONE, 0, 0, 0, 0};
        for (int what = 0; what <= 6; what++) {
            due("11: of one who has nothing, " + what, t.of(11, what), bare[what]);
        }
        for (int i = 0; i < 24; i++) {
            t.thing(i % 2 == 0 ? 11 : i % 11, i % 2 == 0 ? i % 11 : 11, 0);
            t.like(11, i % 11, 9);
            t.quarrel(11, i % 11, true);
        }
        t.heir(11, 0);
        int[] most = {0, 1, 0, 24, 11, 216, 11};
        for (int what = 0; what <= 6; what++) {
            due("11: of one who has most, " + what, t.of(11, what), most[what]);
        }
    }

    static void promise11LeastContent() {
        OwnedByTwos t = Towns.people(2);
        Towns.things(t, 24);
        t.like(1, 0, -9);
        due("11: least content", t.of(1, 5), -216);
        due("11: not the other's", t.of(0, 5), 0);
    }

    static void promise11NotLiving() {
        OwnedByTwos t = Towns.bereaved();
        int[] dead = {0, 0, NONE, 0, 0, 0, 0};
        for (int what = 0; what <= 6; what++) {
            due("11: of one who died, " + what, t.of(3, what), dead[what]);
        }
    }

    static void promise12WithoutThese() {
        Shown.range("12: one", Towns::small, (t, n) -> t.two(n, n == 3 ? 0 : 3, 0), 0, 3, -100);
        Shown.range("12: other", Towns::small, (t, n) -> t.two(n == 3 ? 0 : 3, n, 0), 0, 3, -100);
        Shown.range("12: what", Towns::small, (t, n) -> t.two(0, 1, n), 0, 4, -100);
        due("12: the last two", Towns.full().two(11, 10, 2), 1);
        due("12: no thirteenth", Towns.full().two(11, 12, 2), -100);
    }

    static void promise12Unlike() {
        for (int what = 0; what <= 4; what++) {
            due("12: one and the same", Towns.small().two(0, 0, what), -100);
        }
    }

    static void promise12NoneAndMost() {
        OwnedByTwos t = Towns.people(12);
        for (int what = 0; what <= 4; what++) {
            due("12: two who have nothing, " + what, t.two(10, 11, what), 0);
        }
        for (int i = 0; i < 24; i++) {
            t.thing(10, 11, 0);
        }
        for (int i = 0; i < 12; i++) {
            t.work(10, 0xf, 0, i);
        }
        due("12: most shared", t.two(11, 10, 2), 24);
        due("12: most stops", t.two(11, 10, 4), 12);
        law(t, "yes 1");
        for (int i = 0; i < 12; i++) {
            t.does(0, i);
        }
        due("12: most given", t.two(11, 10, 3), 48);
        due("12: an asker gives himself none, nor others", t.two(10, 11, 3), 0);
        due("12: none is left to stop", t.two(11, 10, 4), 0);
        due("12: most like", t.like(11, 10, 9) == 0 && t.two(11, 10, 0) == 9, true);
        due("12: least like", t.like(11, 10, -9) == 9 && t.two(11, 10, 0) == -9, true);
    }

    static void promise13WithoutThese() {
        Shown.range("13: thing", Towns::small, (t, n) -> t.things(n, 0), 0, 2, NONE);
        Shown.range("13: what", Towns::small, (t, n) -> t.things(0, n), 0, 2, NONE);
        due("13: the last of 24", Towns.full().things(23, 2), 999);
        due("13: no 25th", Towns.full().things(24, 2), NONE);
    }

    static void promise14WithoutThese() {
        Shown.range("14: work", Towns::small, (t, n) -> t.works(n, 0), 0, 3, NONE);
        Shown.range("14: what", Towns::small, (t, n) -> t.works(0, n), 0, 4, NONE);
        due("14: done", Towns.small().works(3, 4), 1);
        due("14: not done", Towns.small().works(0, 4), 0);
        due("14: the last of twelve", Towns.full().works(11, 2), 9988);
        due("14: no thirteenth", Towns.full().works(12, 2), NONE);
    }

    // ---- 15 to 19: nod, had, can, bars, does

    static void promise15WithoutThese() {
        Shown.range("15: law", Towns::small, (t, n) -> t.nod(n, 0, 0, 1), 0, 1, NONE);
        Shown.range("15: work", Towns::small, (t, n) -> t.nod(0, n, n == 3 ? 1 : 0, 1), 0, 3, NONE);
        Shown.range("15: thing", Towns::small, (t, n) -> t.nod(0, 1, n, 1), 0, 1, NONE);
        Shown.range("15: the last of six laws", Towns::full, (t, n) -> t.nod(n, 11, 23, 1), 0, 5, NONE);
        Shown.range("15: the last of 24 things", Towns::full, (t, n) -> t.nod(0, 11, n, 1), 23, 23, NONE);
    }

    static void promise15NoOwnerOfIt() {
        Shown.range("15: owner", Towns::small, (t, n) -> t.nod(0, 0, 0, n), 1, 2, NONE);
        due("15: the asker is no owner", Towns.small().nod(0, 0, 0, 0), NONE);
        due("15: one who lives, no owner", Towns.small().nod(0, 0, 0, 3), NONE);
        due("15: the last of twelve", Towns.full().nod(0, 10, 10, 11), 0);
    }

    static void promise15NotOfTheWork() {
        stays("15: a thing of another work", Towns::small, t -> t.nod(0, 0, 1, 1), NONE);
        stays("15: a thing of none", Towns::small, t -> t.nod(0, 3, 2, 3), NONE);
    }

    static void promise15PriceNothingNot() {
        OwnedByTwos t = Towns.people(2);
        Towns.things(t, 1);
        t.work(0, 1, 0, 0);
        String[] laws = {"yes 1;price 9", "yes 0;price 1", "yes 0;price 0", "price 9999", "price 10000", "price 0-1"};
        int[] want = {0, 1, -2, 9999, 9999, -2};
        for (int i = 0; i < laws.length; i++) {
            due("15: " + laws[i], t.nod(law(t, laws[i]), 0, 0, 1), want[i]);
        }
    }

    static void promise16WithoutThese() {
        Shown.range("16: law", Towns::small, (t, n) -> t.had(n, 1, 1), 0, 1, NONE);
        Shown.range("16: work", Towns::small, (t, n) -> t.had(0, n, n == 0 ? 0 : 1), 0, 1, NONE);
        Shown.range("16: thing", Towns::small, (t, n) -> t.had(1, 1, n), 0, 1, NONE);
        due("16: a thing of another work", Towns.small().had(1, 0, 1), NONE);
        due("16: no thirteenth work", Towns.full().had(0, 12, 0), NONE);
        due("16: no 25th thing", Towns.full().had(0, 11, 24), NONE);
        due("16: no 33rd thing", Towns.full().had(0, 0, 32), NONE);
    }

    static void promise16NothingMostCant() {
        OwnedByTwos t = Towns.people(3);
        t.thing(1, 2, 0);
        t.work(0, 1, 0, 0);
        due("16: for nothing", t.had(law(t, "yes 1"), 0, 0), 0);
        due("16: for the most", t.had(law(t, "price 99999"), 0, 0), 19998);
        due("16: it can't", t.had(law(t, "yes 0"), 0, 0), -2);
    }

    static void promise17WithoutThese() {
        Shown.range("17: law", Towns::small, (t, n) -> t.can(n, 0), 0, 1, NONE);
        Shown.range("17: work", Towns::small, (t, n) -> t.can(0, n), 0, 3, NONE);
        Shown.range("17: law of six", Towns::full, (t, n) -> t.can(n, 11), 0, 5, NONE);
        Shown.range("17: work of twelve", Towns::full, (t, n) -> t.can(5, n), 0, 11, NONE);
    }

    static void promise18WithoutThese() {
        Shown.range("18: law", Towns::small, (t, n) -> t.bars(n, 0), 0, 1, NONE);
        Shown.range("18: work", Towns::small, (t, n) -> t.bars(0, n), 0, 3, NONE);
        Shown.range("18: law of six", Towns::full, (t, n) -> t.bars(n, 11), 0, 5, NONE);
        Shown.range("18: work of twelve", Towns::full, (t, n) -> t.bars(5, n), 0, 11, NONE);
    }

    static void promise18EachCanBeHad() {
        OwnedByTwos t = Towns.people(3);
        t.thing(1, 2, 0);
        t.work(0, 1, 0, 0);
        due("18: none bars, though none has coin", t.bars(law(t, "price 9"), 0), -2);
        due("18: and it can't be done", t.can(0, 0), 0);
    }

    static void promise19ItCantBe() {
        stays("19: too dear", () -> {
            OwnedByTwos t = Towns.small();
            t.end(0);
            law(t, "price 51;nods 2");
            return t;
        }, t -> t.does(2, 0), -2);
        stays("19: it is done", Towns::small, t -> t.does(1, 3), -2);
        stays("19: owners quarrel", Towns::small, t -> t.does(0, 2), -2);
        stays("19: a dead asker", () -> {
            OwnedByTwos t = Towns.small();
            t.dies(0);
            return t;
        }, t -> t.does(1, 1), -2);
    }

    static void promise19WithoutThese() {
        Shown.range("19: law", Towns::small, (t, n) -> t.does(n, 0), 0, 1, NONE);
        Shown.range("19: work", Towns::small, (t, n) -> t.does(1, n), 0, 3, NONE);
    }

    static void promise19AllItsPrices() {
        OwnedByTwos t = Towns.with(79992, 0, 0);
        for (int i = 0; i < 4; i++) {
            t.thing(1, 2, 0);
        }
        t.work(0, 15, 9999, 0);
        due("19: the most that it can cost", t.does(law(t, "price 9999"), 0), 79992);
        due("19: all is paid, then worth comes", t.of(0, 0), 9999);
        due("19: to the first owner", t.of(1, 0), 39996);
        due("19: to the second owner", t.of(2, 0), 39996);
        t = Towns.with(79991, 0, 0);
        for (int i = 0; i < 4; i++) {
            t.thing(1, 2, 0);
        }
        t.work(0, 15, 9999, 0);
        due("19: one less of coin", t.does(law(t, "price 9999"), 0), -2);
        due("19: for nothing", t.does(law(t, "yes 1"), 0), 0);
    }

    // ---- 20 to 22: row, judged, then

    static void promise20ThereAreTwelve() {
        OwnedByTwos t = Towns.small();
        t.row(NONE);
        for (int i = 1; i <= 12; i++) {
            due("20: how many", t.row(i % 4), i);
        }
        due("20: a thirteenth", t.row(0), -2);
        due("20: twelve stay", t.count(7), 12);
        stays("20: a thirteenth changes nothing", Towns::full, x -> x.row(0), -2);
    }

    static void promise20NoneEmptiesIt() {
        OwnedByTwos t = Towns.full();
        due("20: empty then", t.row(NONE), 0);
        due("20: empty", t.count(7), 0);
        due("20: empty again", t.row(NONE), 0);
        due("20: the first again", t.row(11), 1);
        due("20: without works", Towns.bare().row(NONE), 0);
    }

    static void promise20WithoutIt() {
        stays("20: -2", Towns::small, t -> t.row(-2), -2);
        stays("20: one too high", Towns::small, t -> t.row(4), -2);
        stays("20: the lowest", Towns::small, t -> t.row(LOW), -2);
        stays("20: the highest", Towns::small, t -> t.row(HIGH), -2);
        due("20: the last", Towns.small().row(3), 4);
        due("20: the first", Towns.small().row(0), 4);
        due("20: without works", Towns.bare().row(0), -2);
    }

    static void promise21WithoutTheLaw() {
        for (int what : new int[] {LOW, -1, 0, 1, 2, HIGH}) {
            due("21: no law, whatever what is", Towns.small().judged(-1, what), -2);
            due("21: no law, whatever what is", Towns.small().judged(2, what), -2);
            due("21: no seventh", Towns.full().judged(6, what), -2);
        }
        due("21: the first law", Towns.small().judged(0, 0), 1);
        due("21: the last law", Towns.full().judged(5, 0), 0);
    }

    static void promise21OthersAreNone() {
        for (int what : new int[] {LOW, -1, 2, HIGH}) {
            stays("21: other " + what, Towns::small, t -> t.judged(0, what), NONE);
        }
        due("21: 0", Towns.small().judged(0, 0), 1);
        due("21: 1", Towns.small().judged(0, 1), 40);
    }

    static void promise21NothingChanges() {
        stays("21: which one", Towns::small, t -> t.judged(0, 0), 1);
        stays("21: worth", Towns::small, t -> t.judged(0, 1), 40);
    }

    static void promise22WithoutThese() {
        Shown.range("22: law", Towns::small, (t, n) -> t.then(n, 0), 0, 1, NONE);
        Shown.range("22: person", Towns::small, (t, n) -> t.then(0, n), 0, 3, NONE);
        Shown.range("22: person of twelve", Towns::full, (t, n) -> t.then(5, n), 0, 11, NONE);
        due("22: a dead one", Towns.bereaved().then(0, 3), 0);
    }

    // ---- 23 to 26: chain, all, worth, share

    static void promise23WithoutThese() {
        Shown.range("23: law", Towns::small, (t, n) -> t.chain(n, 0), 0, 1, NONE);
        Shown.range("23: work", Towns::small, (t, n) -> t.chain(0, n), 0, 3, NONE);
        due("23: law of six", Towns.full().chain(5, 11) != NONE, true);
        due("23: no seventh", Towns.full().chain(6, 11), NONE);
        due("23: no thirteenth work", Towns.full().chain(5, 12), NONE);
    }

    static void promise23NoneIsThere() {
        stays("23: it is done", Towns::small, t -> t.chain(1, 3), -2);
        stays("23: owners quarrel", Towns::small, t -> t.chain(1, 2), 4);
        stays("23: owners quarrel and both must nod", Towns::small, t -> t.chain(0, 2), -2);
    }

    static void promise24WithoutThese() {
        Shown.range("24: law", Towns::small, (t, n) -> t.all(n, 0), 0, 1, NONE);
        Shown.range("24: what", Towns::small, (t, n) -> t.all(0, n), 0, 1, NONE);
        Shown.range("24: law of six", Towns::full, (t, n) -> t.all(n, 1), 0, 5, NONE);
    }

    static void promise24NoneAndAllTwelve() {
        OwnedByTwos t = Towns.people(2);
        law(t, "yes 1");
        due("24: without works", t.all(0, 0), 0);
        due("24: without works", t.all(0, 1), 0);
        Towns.things(t, 1);
        for (int i = 0; i < 12; i++) {
            t.work(0, 1, 9999, i);
        }
        due("24: all twelve", t.all(0, 0), 4095);
        due("24: all their worth", t.all(0, 1), 12 * 9999);
    }

    static void promise25OneToSix() {
        OwnedByTwos t = Towns.people(12);
        due("25: nobody", t.worth(0), NONE);
        due("25: one", t.worth(1), 0);
        due("25: the last", t.worth(1 << 11), 0);
        due("25: six", t.worth(63 << 6), 0);
        due("25: seven", t.worth(127 << 5), NONE);
        due("25: twelve", t.worth(4095), NONE);
        stays("25: seven change nothing", Towns::full, x -> x.worth(127), NONE);
    }

    static void promise25WithoutThese() {
        OwnedByTwos t = Towns.people(12);
        due("25: no thirteenth", t.worth(1 << 12), NONE);
        due("25: no thirteenth with the last", t.worth(3 << 11), NONE);
        due("25: the highest bit", t.worth(LOW), NONE);
        due("25: the highest bit and one", t.worth(LOW | 1), NONE);
        due("25: all bits", t.worth(-1), NONE);
        due("25: of four the last", Towns.small().worth(8), 0);
        due("25: of four no fifth", Towns.small().worth(16), NONE);
    }

    static void promise26OneToSix() {
        OwnedByTwos t = Towns.people(12);
        due("26: nobody", t.share(0, 0, 0), NONE);
        due("26: one, above", t.share(1 << 11, 11, 0), 0);
        due("26: one, below", t.share(1 << 11, 11, 1), 1);
        due("26: six", t.share(63 << 6, 11, 1), 1);
        due("26: seven", t.share(127 << 5, 11, 1), NONE);
        due("26: no thirteenth", t.share(1 << 12, 12, 0), NONE);
        due("26: the highest bit", t.share(LOW | 1, 0, 0), NONE);
    }

    static void promise26OneOfThem() {
        OwnedByTwos t = Towns.people(12);
        due("26: the first of them", t.share(0x81, 0, 1), 1);
        due("26: the last of them", t.share(0x81, 7, 1), 1);
        due("26: not of them", t.share(0x81, 1, 1), NONE);
        due("26: not of them", t.share(0x81, 8, 1), NONE);
        for (int person : new int[] {LOW, -1, 12, 31, 32, 39, HIGH}) {
            due("26: no one", t.share(0x81, person, 1), NONE);
        }
    }

    static void promise26Part() {
        Shown.range("26: part", Towns::small, (t, n) -> t.share(15, 1, n), 0, 1, NONE);
    }

    static void promise26MostOfAll() {
        OwnedByTwos t = Towns.people(6);
        t.thing(0, 1, 0);
        t.thing(2, 3, 0);
        t.thing(4, 5, 0);
        for (int i = 0; i < 12; i++) {
            t.work(0, 7, 9999, i);
        }
        due("26: a sixth of all, above", t.share(63, 5, 0), 2 * 9999);
        due("26: a sixth of all, below", t.share(63, 5, 1), 1);
        due("26: without one of them nothing", t.share(31, 0, 0), 0);
        t = Towns.people(6);
        t.thing(0, 1, 0);
        t.thing(2, 3, 0);
        t.thing(4, 5, 0);
        t.work(0, 7, 1, 0);
        due("26: a sixth of one, above", t.share(63, 0, 0), 1);
        due("26: a sixth of one, below", t.share(63, 0, 1), 6);
    }

    // ---- 27 to 32: stopped, least, lay, swap, trades, dies

    static void promise27NoneAndAllTwelve() {
        OwnedByTwos t = Towns.people(3);
        Towns.things(t, 1);
        due("27: without works", t.stopped(), 0);
        for (int i = 0; i < 12; i++) {
            t.work(2, 1, 0, i);
        }
        due("27: without quarrels", t.stopped(), 0);
        t.quarrel(0, 1, true);
        due("27: all", t.stopped(), 12);
        t.quarrel(1, 2, true);
        due("27: each once", t.stopped(), 12);
    }

    static void promise28WithoutWorksNotDone() {
        OwnedByTwos t = Towns.people(2);
        Towns.things(t, 1);
        due("28: without works", t.least(), 0);
        t.work(0, 1, 0, 0);
        due("28: one", t.least(), 1);
        t.does(law(t, "yes 1"), 0);
        due("28: all are done", t.least(), 0);
    }

    static void promise28Twelve() {
        OwnedByTwos t = Towns.people(12);
        for (int i = 0; i < 12; i++) {
            t.thing(i, (i + 1) % 12, 0);
            t.work(i, 1 << i, 0, 0);
        }
        due("28: twelve, each by its own two", t.least(), 12);
        OwnedByTwos u = Towns.people(12);
        Towns.things(u, 1);
        for (int i = 0; i < 12; i++) {
            u.work(i, 1, 0, i);
        }
        due("28: twelve by one two", u.least(), 1);
    }

    static void promise29OneToFourThings() {
        OwnedByTwos t = Towns.people(2);
        Towns.things(t, 24);
        due("29: none", t.lay(0, 3, -1), NONE);
        due("29: one", t.lay(1 << 23, 3, 0), 1);
        due("29: four", t.lay(0xf << 20, 3, 3), 1);
        due("29: five", t.lay(0x1f << 19, 3, -1), NONE);
        due("29: no 25th", t.lay(1 << 24, 3, -1), NONE);
        due("29: no 25th among them", t.lay(3 << 23, 3, -1), NONE);
        due("29: the highest bit", t.lay(LOW, 3, -1), NONE);
        due("29: all bits", t.lay(-1, 3, -1), NONE);
        stays("29: it changes nothing", Towns::small, x -> x.lay(7, 15, 2), 1);
        stays("29: none changes nothing", Towns::small, x -> x.lay(0, 15, 0), NONE);
    }

    static void promise29TwoToFourPeople() {
        OwnedByTwos t = Towns.people(12);
        Towns.things(t, 1);
        due("29: nobody", t.lay(1, 0, -1), NONE);
        due("29: one", t.lay(1, 1, -1), NONE);
        due("29: two", t.lay(1, 3 << 10, 0), 10 * 16 + 11);
        due("29: four", t.lay(1, 15 << 8, 0), 8 * 16 + 9);
        due("29: five", t.lay(1, 31 << 7, -1), NONE);
        due("29: no thirteenth", t.lay(1, 3 << 11, -1), NONE);
        due("29: the highest bit", t.lay(1, LOW | 1, -1), NONE);
        due("29: all bits", t.lay(1, -1, -1), NONE);
    }

    static void promise29PeopleWhoLive() {
        stays("29: a dead one", Towns::bereaved, t -> t.lay(1, 9, 0), NONE);
        stays("29: two of whom one is dead", Towns::bereaved, t -> t.lay(1, 15, -1), NONE);
        due("29: those who live", Towns.bereaved().lay(1, 7, 0), 1);
    }

    static void promise29PlaceOfTheSet() {
        Shown.range("29: k of one", Towns::small, (t, n) -> t.lay(4, 15, n), -1, 0, NONE);
        Shown.range("29: k of three", Towns::small, (t, n) -> t.lay(7, 15, n), -1, 2, NONE);
        Shown.range("29: k of four", Towns::full, (t, n) -> t.lay(0xf00000, 15, n), -1, 3, NONE);
    }

    static void promise30WithoutThese() {
        Shown.range("30: thing", Towns::small, (t, n) -> bit(n == 0 ? t.swap(0, 0, 2, 1) : t.swap(n, 1, 1, 0)), 0, 2, 0);
        Shown.range("30: other", Towns::small, (t, n) -> bit(n == 0 ? t.swap(2, 1, 0, 0) : t.swap(1, 0, n, 1)), 0, 2, 0);
        Shown.range("30: half", Towns::small, (t, n) -> bit(t.swap(1, n, 2, n == 0 ? 1 : 0)), 0, 1, 0);
        Shown.range("30: other half", Towns::small, (t, n) -> bit(t.swap(1, n == 0 ? 1 : 0, 2, n)), 0, 1, 0);
        OwnedByTwos t = Towns.people(4);
        Towns.things(t, 23);
        t.thing(2, 3, 0);
        due("30: no third half of one, though the next thing has halves", Towns.small().swap(0, 2, 2, 1), false);
        due("30: no third half of the other", Towns.small().swap(2, 1, 0, 2), false);
        due("30: no half before the first", Towns.small().swap(1, -1, 1, 0), false);
        due("30: no half before the first", Towns.small().swap(1, 0, 1, -1), false);
        due("30: the last thing", t.swap(0, 0, 23, 1), true);
        due("30: no 25th", t.swap(0, 0, 24, 0), false);
    }

    static void promise30ItCantBe() {
        stays("30: one thing", Towns::small, t -> bit(t.swap(0, 0, 0, 1)), 0);
        stays("30: one thing, one half", Towns::small, t -> bit(t.swap(0, 0, 0, 0)), 0);
        stays("30: the two are the same one", Towns::small, t -> bit(t.swap(0, 0, 1, 1)), 0);
        stays("30: the first would have one twice", Towns::small, t -> bit(t.swap(0, 1, 1, 1)), 0);
        stays("30: the other would have one twice", Towns::small, t -> bit(t.swap(1, 1, 0, 1)), 0);
    }

    static void promise31NoneAndFifty() {
        due("31: nothing to trade", Towns.people(4).trades(), 0);
        stays("31: none who would", () -> {
            OwnedByTwos t = Towns.full();
            for (int i = 0; i < 12; i++) {
                t.like(i, (i + 1) % 12, 0);
                t.like(i, (i + 2) % 12, 0);
            }
            return t;
        }, t -> t.trades(), 0);
        due("31: without an end", TermsTest.restless().trades(), 50);
    }

    static void promise32FewerThanThreeLive() {
        OwnedByTwos t = Towns.people(4);
        due("32: of four", t.dies(3), 0);
        due("32: of three", t.dies(1), 0);
        due("32: of two", t.dies(0), NONE);
        due("32: of two", t.dies(2), NONE);
        due("32: two live", t.count(1), 2);
        stays("32: of two, nothing happens", () -> {
            OwnedByTwos x = Towns.bereaved();
            x.dies(1);
            return x;
        }, x -> x.dies(0), NONE);
        due("32: of two from the first", Towns.people(2).dies(0), NONE);
        due("32: of one", Towns.people(1).dies(0), NONE);
        due("32: of three from the first", Towns.people(3).dies(2), 0);
    }

    static void promise32WithoutOneWhoLives() {
        Shown.range("32: person", Towns::small, (t, n) -> t.dies(n), 0, 3, NONE);
        stays("32: a dead one", Towns::bereaved, t -> t.dies(3), NONE);
        due("32: the last of twelve", Towns.full().dies(11), 4);
        due("32: no thirteenth", Towns.full().dies(12), NONE);
    }

    static void promise32HowManyHalves() {
        OwnedByTwos t = Towns.people(3);
        Towns.things(t, 24);
        due("32: none", t.dies(2), 0);
        t = Towns.people(3);
        Towns.things(t, 24);
        due("32: all", t.dies(1), 24);
        due("32: to the third", t.of(2, 3), 24);
    }

    // ---- 33 to 35: seed, years, runs

    static void promise33Below0() {
        OwnedByTwos t = Towns.bare();
        due("33: it was 0", t.seed(HIGH), 0);
        due("33: the highest", t.seed(0), HIGH);
        due("33: the least", t.count(9), 0);
        stays("33: -1", Towns::small, x -> x.seed(-1), NONE);
        stays("33: the lowest", Towns::small, x -> x.seed(LOW), NONE);
    }

    static void promise34OneToSixty() {
        Shown.range("34: n", Towns::small, (t, n) -> t.years(0, n), 1, 60, NONE);
        OwnedByTwos t = Towns.small();
        t.years(0, 60);
        due("34: sixty more", t.count(8), 61);
        t.years(0, 1);
        due("34: one more", t.count(8), 62);
    }

    static void promise34WithoutTheLaw() {
        Shown.range("34: law", Towns::small, (t, n) -> t.years(n, 1), 0, 1, NONE);
        Shown.range("34: law of six", Towns::full, (t, n) -> t.years(n, 1), 0, 5, NONE);
    }

    static void promise34YearAbove9999() {
        stays("34: one above", Towns::late, t -> t.years(0, 1), NONE);
        stays("34: sixty above", Towns::late, t -> t.years(0, 60), NONE);
        Shown.Maker before = () -> {
            OwnedByTwos t = Towns.small();
            Towns.toYear(t, 9940);
            return t;
        };
        OwnedByTwos t = before.make();
        due("34: as many as there are", t.years(0, 59) != NONE, true);
        due("34: the last year", t.count(8), 9999);
        stays("34: one too many at once", before, x -> x.years(0, 60), NONE);
    }

    static void promise34NobodyAndAll() {
        OwnedByTwos t = Towns.bare();
        law(t, "quarrel 1000;peace 1000");
        due("34: nobody", t.years(0, 60), 0);
        due("34: no draw", t.count(9), 0);
        due("34: years go on", t.count(8), 60);
        OwnedByTwos u = Towns.people(12);
        for (int i = 0; i < 12; i++) {
            for (int j = 0; j < i; j++) {
                u.quarrel(i, j, true);
            }
        }
        law(u, "quarrel 1000");
        due("34: all quarrel still", u.years(0, 2), 66);
        law(u, "peace 1000");
        due("34: none does", u.years(1, 1), 0);
    }

    static void promise35AsTold() {
        Shown.range("35: law", Towns::small, (t, n) -> t.runs(n, 1, 1, 0), 0, 1, NONE);
        Shown.range("35: n", Towns::small, (t, n) -> t.runs(0, n, 1, 0), 1, 20, NONE);
        Shown.range("35: years", Towns::small, (t, n) -> t.runs(0, 1, n, 0), 0, 20, NONE);
        Shown.range("35: what", Towns::small, (t, n) -> t.runs(0, 1, 1, n), 0, 2, NONE);
        Shown.range("35: law of six", Towns::full, (t, n) -> t.runs(n, 20, 20, 0), 0, 5, NONE);
    }

    static void promise35NothingChanges() {
        for (int n = 0; n < 3; n++) {
            int what = n;
            int want = Towns.small().runs(0, 20, 20, what);
            stays("35: what " + what, Towns::small, t -> t.runs(0, 20, 20, what), want);
        }
    }

    static void promise35NoneAndAll() {
        OwnedByTwos t = Towns.bare();
        law(t, "yes 1");
        for (int what = 0; what < 3; what++) {
            due("35: nobody", t.runs(0, 20, 20, what), 0);
        }
        OwnedByTwos u = Towns.people(12);
        for (int i = 0; i < 12; i++) {
            for (int j = 0; j < i; j++) {
                u.quarrel(i, j, true);
            }
        }
        law(u, "quarrel 1000");
        due("35: all together", u.runs(0, 20, 20, 0), 20 * 66);
        due("35: no work", u.runs(0, 20, 20, 1), 0);
        due("35: the most", u.runs(0, 20, 20, 2), 66);
        law(u, "yes 1");
        u.quarrel(0, 1, false);
        u.thing(0, 1, 0);
        u.work(0, 1, 0, 0);
        due("35: a work in each", u.runs(1, 20, 20, 1), 20);
    }

    /** Promise 34 alone refuses years above 9999; in RUNS nothing changes, so they go on. */
    static void promise35InTheLastYear() {
        OwnedByTwos t = Towns.people(2);
        Towns.things(t, 1);
        law(t, "quarrel 1000 if year=9999");
        Towns.toYear(t, 9999);
        due("35: no years", t.runs(0, 1, 0, 0), 0);
        due("35: one year", t.runs(0, 3, 1, 0), 3);
        due("35: twenty years", t.runs(0, 3, 20, 2), 1);
        due("35: year stays", t.count(8), 9999);
    }

    // ---- 36 to 39: towards, count, image, back

    static void promise36WithoutAny() {
        due("36: without people", Towns.bare().towards(0), 0);
        due("36: one", Towns.people(1).towards(0), 1);
        OwnedByTwos t = Towns.people(12);
        due("36: without quarrels", t.towards(0), 1);
        for (int i = 0; i < 11; i++) {
            t.quarrel(i, i + 1, true);
            due("36: a row of them", t.towards(0), i + 2);
        }
    }

    static void promise36NoThings() {
        OwnedByTwos t = Towns.people(12);
        due("36: no things", t.towards(1), NONE);
        due("36: no things", t.towards(2), NONE);
        t.thing(11, 10, 0);
        due("36: lesser", t.towards(1), 10);
        due("36: other", t.towards(2), 11);
    }

    static void promise36Others() {
        Shown.range("36: what", Towns::small, (t, n) -> t.towards(n), 0, 2, -2);
        Shown.range("36: what, of nobody", Towns::bare, (t, n) -> t.towards(n), 0, 2, -2);
    }

    static void promise37Others() {
        Shown.range("37: what", Towns::small, (t, n) -> t.count(n), 0, 10, NONE);
        Shown.range("37: what, of nothing", Towns::bare, (t, n) -> t.count(n), 0, 10, NONE);
    }

    static void promise37NothingAndAll() {
        int[] all = {12, 12, 24, 12, 4, 4, 6, 12, 0, 0, 400};
        OwnedByTwos t = Towns.bare();
        OwnedByTwos u = Towns.full();
        for (int what = 0; what <= 10; what++) {
            due("37: nothing of " + what, t.count(what), 0);
            due("37: full of " + what, u.count(what), all[what]);
        }
        due("37: the last year", Towns.late().count(8), 9999);
        due("37: the highest x", u.seed(HIGH) == 0 && u.count(9) == HIGH, true);
    }

    static void promise38WithoutIt() {
        Shown.range("38: k", Towns::small, (t, n) -> t.image(n), 0, 3, NONE);
        Shown.range("38: k, of nobody", Towns::bare, (t, n) -> t.image(n), 0, 3, NONE);
        Shown.range("38: k, made anew", Towns::full, (t, n) -> t.image(n), 0, 3, NONE);
    }

    static void promise38HowManyPeople() {
        due("38: nobody", Towns.bare().image(0), 0);
        due("38: twelve", Towns.people(12).image(3), 12);
        due("38: with one who died", Towns.bereaved().image(1), 4);
    }

    static void promise39WithoutIt() {
        Shown.range("39: k", Towns::full, (t, n) -> t.back(n), 0, 3, NONE);
    }

    static void promise39NeverMade() {
        stays("39: 1 was never made", Towns::small, t -> t.back(1), NONE);
        stays("39: 3 was never made", Towns::small, t -> t.back(3), NONE);
        due("39: 0 was", Towns.small().back(0), 4);
        due("39: 2 was", Towns.small().back(2), 4);
        OwnedByTwos t = Towns.bare();
        due("39: of nobody", t.image(1) == 0 && t.person(5) == 0 && t.back(1) == 0, true);
        due("39: nobody again", t.count(0), 0);
        due("39: the first again", t.person(7) == 0 && t.of(0, 0) == 7, true);
    }

    static void promise39FourImages() {
        OwnedByTwos t = Towns.bare();
        for (int k = 0; k < 4; k++) {
            due("39: made", t.image(k), k);
            t.person(k);
        }
        for (int k = 3; k >= 0; k--) {
            due("39: gone back", t.back(k), k);
            due("39: as it was", t.count(0), k);
        }
        due("39: forth again", t.back(3), 3);
        due("39: as it was", t.of(2, 0), 2);
    }

    static void promise39WhatStays() {
        OwnedByTwos t = Towns.small();
        Check.write(t, ";");
        due("39: gone back", t.back(0), 4);
        due("39: the tape stays", t.count(10), 17);
        due("39: laws stay", t.count(6), 2);
        due("39: the tape's bytes stay", t.law(), FAULT_AT_0 - 8 * 17);
    }
}
