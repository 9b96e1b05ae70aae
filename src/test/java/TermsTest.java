/** The sentences of the document's 'Terms', parts I to V, that name a boundary: each in a test of its own. */
public final class TermsTest {
    private static final int NONE = OwnedByTwos.NONE;
    private static final int HIGH = Integer.MAX_VALUE;

    private TermsTest() { }

    public static void main(String[] args) throws IllegalAccessException {
        Check.runAll(TermsTest.class, "part", 5);
        Check.finish("TermsTest");
    }

    private static void due(String call, long got, long want) {
        Check.due(call, got, want);
    }

    private static void due(String call, boolean got, boolean want) {
        Check.due(call, got, want);
    }

    private static int law(OwnedByTwos t, String text) {
        return Check.law(t, text);
    }

    private static void fault(String text, int place, int sort) {
        due("law of " + text, law(new OwnedByTwos(), text), -2 - (1 + 8 * place + sort));
    }

    private static void stands(String text) {
        due("law of " + text, law(new OwnedByTwos(), text), 0);
    }

    // ---- I: PEOPLE, THINGS, WORKS

    static void part1PeopleFrom0To11() {
        OwnedByTwos t = Towns.people(12);
        due("I: 0", t.of(0, 1), 1);
        due("I: 11", t.of(11, 1), 1);
        due("I: 12", t.of(12, 1), -100);
        due("I: -1", t.of(-1, 1), -100);
        due("I: a thirteenth", t.person(0), NONE);
    }

    static void part1CoinFrom0To99999() {
        due("I: -1", Towns.bare().person(-1), NONE);
        due("I: 0", Towns.with(0).of(0, 0), 0);
        due("I: 99999", Towns.with(99999).of(0, 0), 99999);
        due("I: 100000", Towns.bare().person(100000), NONE);
    }

    static void part1LikeFromMinus9To9And0AtFirst() {
        OwnedByTwos t = Towns.people(12);
        for (int i = 1; i < 12; i++) {
            due("I: 0 at first", t.two(0, i, 0), 0);
            due("I: 0 at first", t.two(i, 0, 0), 0);
        }
        due("I: -10", t.like(0, 11, -10), -100);
        due("I: -9", t.like(0, 11, -9), 0);
        due("I: 9", t.like(0, 11, 9), -9);
        due("I: 10", t.like(0, 11, 10), -100);
        due("I: of the one alone", t.two(11, 0, 0), 0);
    }

    static void part1NoQuarrelAtFirst() {
        OwnedByTwos t = Towns.people(12);
        for (int i = 1; i < 12; i++) {
            due("I: not at first", t.two(0, i, 1), 0);
        }
        due("I: none", t.count(5), 0);
    }

    static void part1NoHeirAtFirst() {
        due("I: none at first", Towns.people(12).of(11, 2), NONE);
        OwnedByTwos t = Towns.people(2);
        t.image(0);
        t.heir(1, 0);
        t.back(0);
        due("I: as it was", t.of(1, 2), NONE);
        due("I: one who comes later has none", t.person(0) == 2 && t.of(2, 2) == NONE, true);
    }

    /** Numbers that were another one's before an IMAGE was gone back to. */
    static void part1OneWhoComesIsNewThoughHisNumberWasUsed() {
        OwnedByTwos t = Towns.people(3);
        t.image(0);
        t.person(9);
        t.like(3, 0, 5);
        t.like(0, 3, 6);
        t.heir(3, 0);
        t.quarrel(3, 0, true);
        t.thing(3, 1, 0);
        t.work(1, 1, 0, 0);
        t.does(law(t, "yes 1"), 0);
        t.dies(3);
        t.back(0);
        due("I: he comes", t.person(4), 3);
        int[] want = {4, 1, NONE, 0, 0, 0, 0};
        for (int what = 0; what <= 6; what++) {
            due("I: new, " + what, t.of(3, what), want[what]);
        }
        for (int what = 0; what <= 4; what++) {
            due("I: new, " + what, t.two(3, 0, what), 0);
            due("I: new, " + what, t.two(0, 3, what), 0);
            due("I: new, " + what, t.two(3, 1, what), 0);
        }
        t.thing(3, 1, 0);
        t.work(1, 1, 0, 0);
        due("I: a work that is new is not done", t.works(0, 4), 0);
    }

    static void part1TheyLiveAtFirst() {
        OwnedByTwos t = Towns.people(12);
        for (int i = 0; i < 12; i++) {
            due("I: lives", t.of(i, 1), 1);
        }
        due("I: all", t.count(1), 12);
    }

    static void part1ThingsFrom0To23() {
        OwnedByTwos t = Towns.people(2);
        Towns.things(t, 24);
        due("I: 0", t.things(0, 0), 0);
        due("I: 23", t.things(23, 1), 1);
        due("I: 24", t.things(24, 0), NONE);
        due("I: a 25th", t.thing(0, 1, 0), NONE);
    }

    static void part1TwoOwnersUnlike() {
        OwnedByTwos t = Towns.people(2);
        due("I: alike", t.thing(0, 0, 0), NONE);
        due("I: unlike", t.thing(1, 0, 0), 0);
        due("I: the first", t.things(0, 0), 1);
        due("I: the second", t.things(0, 1), 0);
    }

    static void part1UseFrom0To999() {
        OwnedByTwos t = Towns.people(2);
        due("I: -1", t.thing(0, 1, -1), NONE);
        due("I: 0", t.thing(0, 1, 0), 0);
        due("I: 999", t.thing(0, 1, 999), 1);
        due("I: 1000", t.thing(0, 1, 1000), NONE);
        due("I: it has it", t.things(1, 2), 999);
    }

    static void part1WorksFrom0To11() {
        OwnedByTwos t = Towns.full();
        due("I: 0", t.works(0, 0), 1);
        due("I: 11", t.works(11, 0), 0);
        due("I: 12", t.works(12, 0), NONE);
    }

    static void part1OneToFourThingsOfAWork() {
        OwnedByTwos t = Towns.people(2);
        Towns.things(t, 5);
        due("I: none", t.work(0, 0, 0, 0), NONE);
        due("I: one", t.work(0, 16, 0, 0), 0);
        due("I: four", t.work(0, 30, 0, 0), 1);
        due("I: five", t.work(0, 31, 0, 0), NONE);
    }

    static void part1WorthFrom0To9999() {
        OwnedByTwos t = Towns.people(2);
        Towns.things(t, 1);
        due("I: -1", t.work(0, 1, -1, 0), NONE);
        due("I: 0", t.work(0, 1, 0, 0), 0);
        due("I: 9999", t.work(0, 1, 9999, 0), 1);
        due("I: 10000", t.work(0, 1, 10000, 0), NONE);
    }

    static void part1DayFrom0To99() {
        OwnedByTwos t = Towns.people(2);
        Towns.things(t, 1);
        due("I: -1", t.work(0, 1, 0, -1), NONE);
        due("I: 0", t.work(0, 1, 0, 0), 0);
        due("I: 99", t.work(0, 1, 0, 99), 1);
        due("I: 100", t.work(0, 1, 0, 100), NONE);
        due("I: not done at first", t.works(0, 4) + t.works(1, 4), 0);
    }

    static void part1GivenOfTheAskersOwnIsNone() {
        OwnedByTwos t = Towns.people(3);
        t.thing(0, 1, 0);
        t.thing(1, 2, 0);
        t.work(0, 1, 0, 0);
        t.work(0, 3, 0, 1);
        law(t, "yes 1");
        due("I: none at first", t.two(1, 0, 3), 0);
        t.does(0, 0);
        due("I: the other owner's", t.two(1, 0, 3), 1);
        due("I: the asker's own is none", t.two(0, 1, 3) + t.two(0, 2, 3), 0);
        t.does(0, 1);
        due("I: one for each thing", t.two(1, 0, 3), 3);
        due("I: of the third", t.two(2, 0, 3), 1);
        due("I: of owners to one another none", t.two(1, 2, 3) + t.two(2, 1, 3), 0);
    }

    static void part1YearFrom0To9999() {
        OwnedByTwos t = Towns.people(2);
        law(t, "yes 1");
        due("I: 0 at first", t.count(8), 0);
        Towns.toYear(t, 9998);
        due("I: 9999", t.years(0, 1), 0);
        due("I: 9999", t.count(8), 9999);
        due("I: 10000", t.years(0, 1), NONE);
        due("I: 9999 stays", t.count(8), 9999);
    }

    static void part1OwnsSharedNearNoneAndMost() {
        OwnedByTwos t = Towns.people(12);
        due("I: owns nothing", t.of(0, 3), 0);
        due("I: nothing shared", t.two(0, 1, 2), 0);
        due("I: near none", t.of(0, 4), 0);
        for (int i = 0; i < 24; i++) {
            t.thing(i % 2, 1 - i % 2, 0);
        }
        for (int i = 1; i < 12; i++) {
            t.quarrel(0, i, true);
        }
        due("I: owns all", t.of(0, 3), 24);
        due("I: all shared, whoever is first", t.two(1, 0, 2), 24);
        due("I: near all", t.of(0, 4), 11);
        due("I: near one", t.of(11, 4), 1);
    }

    static void part1ItAnswersUpToCall512() {
        OwnedByTwos t = Towns.people(2);
        for (int call = 3; call < 511; call++) {
            t.like(0, 1, call % 9);
        }
        due("I: call 511", t.like(0, 1, 7), 510 % 9);
        due("I: call 512", t.two(0, 1, 0), 7);
    }

    // ---- II: LAWS

    static void part2LawsFrom0To5() {
        OwnedByTwos t = Towns.full();
        due("II: 5", t.can(5, 11) != NONE, true);
        due("II: 6", t.can(6, 11), NONE);
        due("II: -1", t.can(-1, 11), NONE);
    }

    static void part2TextsOfAtMost400Bytes() {
        String head = "price 77";
        OwnedByTwos t = asking();
        due("II: 400 bytes", law(t, head + " ".repeat(386) + "+88888"), 0);
        due("II: read to the last byte", t.nod(0, 0, 0, 1), 9999);
        due("II: 400 bytes", law(t, head + " ".repeat(390) + "+8"), 1);
        due("II: read to the last byte", t.nod(1, 0, 0, 1), 85);
        fault(head + " ".repeat(391) + "+", 400, 0);
        for (int i = 0; i < 20; i++) {
            t.feed(0, 0, 0, 0, 0);
        }
        due("II: no more come", t.feed(0, 0, 0, 0, 0), NONE);
    }

    static void part2ClausesTwelveAtMost() {
        String twelve = "yes 1" + ";yes 1".repeat(11);
        fault("", 0, 0);
        stands("yes 1");
        stands(twelve);
        fault(twelve + ";yes 1", 72, 4);
        OwnedByTwos t = asking();
        due("II: the twelfth is read", law(t, "price 1 if 1=2;".repeat(11) + "price 12"), 0);
        due("II: the twelfth counts", t.nod(0, 0, 0, 1), 12);
    }

    static void part2EachSortWithAndWithoutATest() {
        for (String sort : new String[] {"yes", "price", "nods", "quarrel", "peace"}) {
            stands(sort + " 1");
            stands(sort + " 1 if 1=1");
            fault(sort, sort.length(), 0);
            fault(sort + " 1 if", sort.length() + 5, 0);
            fault(sort + "s 1", 0, 0);
            fault(sort.substring(1) + " 1", 0, 0);
        }
    }

    static void part2NumbersOf1To5Digits() {
        stands("yes 1");
        stands("yes 99999");
        stands("yes 00000");
        fault("yes 100000", 4, 1);
        fault("yes 000000", 4, 1);
        fault("yes 1 00000", 6, 0);
        price("price 09999", 9999);
        price("price 00000", -2);
        price("price 00001", 1);
    }

    static void part2DigitsAsFarAsTheyGoOn() {
        price("price 12345-12000", 345);
        fault("yes 1" + "0".repeat(395), 4, 1);
        fault("yes 12345 6", 10, 0);
        stands("yes 1if 2=3");
    }

    static void part2WordsAsFarAsLettersGoOn() {
        for (String word : new String[] {"like", "mate", "worth", "use", "owns", "coin", "day", "given", "shared",
            "near", "year"}) {
            stands("yes " + word);
            stands("yes 2*" + word + "/2");
            fault("yes " + word + "s", 4, 0);
            fault("yes s" + word, 4, 0);
            fault("yes " + word.substring(1), 4, 0);
            fault("yes " + word.substring(0, word.length() - 1), 4, 0);
            fault("yes " + word + word, 4, 0);
            fault("yes " + word.toUpperCase(), 4, 0);
        }
        stands("yes1");
        fault("yesday", 0, 0);
        fault("yes dayif 1=1", 4, 0);
        stands("yes 1if day=day");
    }

    static void part2TheSmallLettersEndAtAAndZ() {
        fault("yes day`", 7, 0);
        fault("yes day{", 7, 0);
        fault("yes dayz", 4, 0);
        fault("yes daya", 4, 0);
        fault("yes 1/", 6, 0);
        fault("yes 1:", 5, 0);
    }

    static void part2TestsOfOneFactAndOfMany() {
        String yes = "1=1";
        String no = "1=2";
        for (int n = 0; n < 16; n++) {
            String[] facts = new String[4];
            for (int i = 0; i < 4; i++) {
                facts[i] = (n >> i & 1) != 0 ? yes : no;
            }
            boolean a = (n & 1) != 0;
            boolean b = (n & 2) != 0;
            boolean c = (n & 4) != 0;
            boolean d = (n & 8) != 0;
            test(facts[0], a);
            test("not " + facts[0], !a);
            test("[" + facts[0] + "]", a);
            test(String.join(" or ", facts), a || b || c || d);
            test(String.join(" and ", facts), a && b && c && d);
            test(facts[0] + " and " + facts[1] + " or " + facts[2] + " and " + facts[3], a && b || c && d);
            test(facts[0] + " or " + facts[1] + " and " + facts[2] + " or " + facts[3], a || b && c || d);
            test("[" + facts[0] + " or " + facts[1] + "] and [" + facts[2] + " or " + facts[3] + "]",
                    (a || b) && (c || d));
            test("not " + facts[0] + " and not [" + facts[1] + " or " + facts[2] + "] or " + facts[3],
                    !a && !(b || c) || d);
        }
    }

    private static void test(String test, boolean holds) {
        price("price 1 if " + test + ";price 2", holds ? 1 : 2);
    }

    static void part2EachSign() {
        String[] signs = {"<", "<=", "=", ">=", ">"};
        boolean[][] holds = {{true, false, false}, {true, true, false}, {false, true, false}, {false, true, true},
            {false, false, true}};
        for (int i = 0; i < signs.length; i++) {
            for (int n = 6; n <= 8; n++) {
                boolean holds7 = holds[i][n - 6];
                test(n + signs[i] + "7", holds7);
                test("not " + n + signs[i] + "7", !holds7);
                test("not not " + n + signs[i] + "7", holds7);
                test(n + signs[i] + "7 and 1=1", holds7);
                test("1=2 or " + n + signs[i] + "7", holds7);
            }
        }
    }

    static void part2AFactWithoutASign() {
        fault("yes 1 if 1 1", 11, 0);
        fault("yes 1 if day day", 13, 0);
        fault("yes 1 if 1", 10, 0);
        fault("yes 1 if 1;yes 1", 10, 0);
        fault("yes 1 if 1 and 1=1", 11, 0);
        fault("yes 1 if [1]=1", 11, 0);
        fault("yes 1 if =1", 9, 0);
        fault("yes 1 if 1==1", 11, 0);
        fault("yes 1 if 1=>1", 11, 0);
        fault("yes 1 if 1=1=1", 12, 0);
    }

    static void part2DivisionIsTowards0() {
        price("price 7/2", 3);
        price("price 100+like*7/2", 97);
        price("price 100-7/2", 97);
        price("price 100+7/like+0", 93);
        price("price 10+like/2", 10);
        price("price 5+like*1/2", 5);
        price("price 9/10", -2);
    }

    static void part2DivisionBy0Is0() {
        price("price 5/0", -2);
        price("price 5/0+3", 3);
        price("price 0/0+3", 3);
        price("price 5/year+3", 3);
        price("price 5/0*7+4", 4);
        price("price 1 if 5/0=0", 1);
    }

    /** 2 to the 63rd is 32768 * 65536 * 65536 * 65536. */
    static void part2AllGoesRoundIn64Bits() {
        String least = "32768*65536*65536*65536";
        price("price 1 if " + least + "<0", 1);
        price("price 1 if " + least + "-1>0", 1);
        price("price 1 if " + least + "+" + least + "=0", 1);
        price("price 1 if 0-1+" + least + "+1<0", 1);
        price("price 1 if 65536*65536*65536*65536=0", 1);
        price("price 1 if " + least + "*like<0", 1);
        price("price 1 if " + least + "/like<0", 1);
        price("price 1 if " + least + "/like=" + least, 1);
        price("price 65536*65536*65536*65536+8", 8);
        price("price " + least + "-1", 9999);
        price("price " + least, -2);
        price("yes " + least + "-1", 0);
        price("yes " + least + ";price 3", 3);
    }

    static void part2BlanksAsOneLikes() {
        stands("yes 1if[1=1]and not[1=1]or 1<2;price 1");
        stands("   yes   1   +   1   if   not   [   1   <=   1   ]   ;   price   1   ");
        fault("yes 1 if 1< =1", 12, 0);
        fault("ye s 1", 0, 0);
        fault("yes\t1", 3, 0);
        fault("yes" + (char) 160 + "1", 3, 0);
        fault("yes 1\n", 5, 0);
        fault("yes 1" + (char) 0, 5, 0);
    }

    static void part2DeepTenAtMost() {
        stands("yes 1 if " + "[".repeat(10) + "1=1" + "]".repeat(10));
        fault("yes 1 if " + "[".repeat(11) + "1=1" + "]".repeat(11), 19, 2);
        stands("yes 1 if " + "not ".repeat(10) + "1=1");
        fault("yes 1 if " + "not ".repeat(11) + "1=1", 49, 2);
        stands("yes 1 if " + "not[".repeat(5) + "1=1" + "]".repeat(5));
        fault("yes 1 if " + "not[".repeat(5) + "not 1=1" + "]".repeat(5), 29, 2);
        fault("yes 1 if " + "not[".repeat(5) + "[1=1]" + "]".repeat(5), 29, 2);
        stands("yes 1 if " + "[".repeat(10) + "1=1" + "]".repeat(10) + " and " + "[".repeat(10) + "1=1" + "]".repeat(10));
        stands("yes 1 if " + "not ".repeat(10) + "1=1 or " + "not ".repeat(10) + "1=1");
        stands("yes 1 if " + "[".repeat(10) + "1=1" + "]".repeat(10) + ";yes 1 if " + "[".repeat(10) + "1=1"
                + "]".repeat(10));
        fault("yes 1 if " + "[".repeat(9) + "not 1=1 and not [1=1]" + "]".repeat(9), 9 + 9 + 16, 2);
        price("price 1 if " + "not ".repeat(10) + "1=1;price 2", 1);
        price("price 1 if " + "not ".repeat(9) + "1=1;price 2", 2);
    }

    static void part2ValuesAndFactsSixtyAtMost() {
        stands("yes 1" + "+1".repeat(59));
        fault("yes 1" + "+1".repeat(60), 4 + 120, 3);
        fault("yes 1" + "+1".repeat(59) + "+year", 4 + 120, 3);
        stands("yes 1" + "+1".repeat(56) + " if 1=1");
        fault("yes 1" + "+1".repeat(57) + " if 1=1", 4 + 115 + 6, 3);
        fault("yes 1" + "+1".repeat(58) + " if 1=1", 4 + 117 + 5, 3);
        fault("yes 1" + "+1".repeat(59) + " if 1=1", 4 + 119 + 4, 3);
        stands("yes 1" + "+1".repeat(55) + ";yes 1 if 1=1");
        fault("yes 1" + "+1".repeat(56) + ";yes 1 if 1=1", 4 + 113 + 5 + 7, 3);
        price("price 1" + "+1".repeat(59), 60);
    }

    static void part2FaultsTheFirstAlongTheText() {
        fault("yes 100000 x", 4, 1);
        fault("yes x 100000", 4, 0);
        fault("yes 1 if " + "[".repeat(11) + "100000", 19, 2);
        fault("yes 1 if 100000=" + "[".repeat(11), 9, 1);
        fault("yes 1;".repeat(13) + "x", 72, 4);
        fault("yes 1;".repeat(11) + "yes 100000;yes 1", 70, 1);
    }

    static void part2FaultsAtTheEnd() {
        fault("", 0, 0);
        fault(" ", 1, 0);
        fault("yes", 3, 0);
        fault("yes 1+", 6, 0);
        fault("yes 1;", 6, 0);
        fault("yes 1 if", 8, 0);
        fault("yes 1 if 1", 10, 0);
        fault("yes 1 if 1<", 11, 0);
        fault("yes 1 if [1=1", 13, 0);
        fault("yes 1 if not", 12, 0);
        fault("yes 1 if 1=1 and", 16, 0);
        fault("yes 1 if 1=1 or  ", 17, 0);
        fault(" ".repeat(400), 400, 0);
        fault(" ".repeat(397) + "yes", 400, 0);
    }

    static void part2FaultsOfOnePlaceTheLeast() {
        String sixty = "yes 1" + "+1".repeat(59);
        fault(sixty + "+100000", 124, 1);
        fault(sixty + "+days", 124, 0);
        fault(sixty + "+", 124, 0);
        String twelve = "yes 1" + ";yes 1".repeat(11);
        fault(twelve + ";no 1", 72, 0);
        fault(twelve + ";", 72, 0);
        fault(twelve + ";;", 72, 0);
    }

    /** Owner 1, not 0 who asks; his LIKE is -1, the DAY 99, the worth 9999, the use 999. */
    private static OwnedByTwos asking() {
        OwnedByTwos t = Towns.people(2);
        t.thing(0, 1, 999);
        t.work(0, 1, 9999, 99);
        t.like(1, 0, -1);
        return t;
    }

    private static void price(String law, int want) {
        OwnedByTwos t = asking();
        due("law of " + law, law(t, law), 0);
        due("nod by " + law, t.nod(0, 0, 0, 1), want);
    }

    static void part2TheFirstClauseWithoutATestOrWhoseTestHolds() {
        price("price 3;price 4", 3);
        price("price 3 if 1=2;price 4;price 5", 4);
        price("price 3 if 1=1;price 4", 3);
        price("price 3 if 1=2;price 4 if 1=1;price 5", 4);
        price("price 0;price 4", -2);
    }

    static void part2WithoutAClauseItIs0() {
        price("nods 2", -2);
        price("yes 1 if 1=2;price 5 if 1=2", -2);
        price("yes 1 if 1=2;price 5", 5);
        OwnedByTwos t = asking();
        law(t, "yes 1");
        due("II: quarrel 0 without", t.years(0, 60), 0);
        t.quarrel(0, 1, true);
        due("II: peace 0 without", t.years(0, 60), 1);
    }

    static void part2WithoutNodsItIs2() {
        OwnedByTwos t = Towns.people(3);
        t.thing(1, 2, 0);
        t.work(0, 1, 0, 0);
        t.like(1, 0, 1);
        due("II: 2 without", t.had(law(t, "yes like"), 0, 0), -2);
        due("II: 2 without one that holds", t.had(law(t, "yes like;nods 1 if 1=2"), 0, 0), -2);
        due("II: 1", t.had(law(t, "yes like;nods 1 if 1=1"), 0, 0), 0);
    }

    /** What a WORD is for owner 1 of THING 0 of WORK 0. */
    private static void word(OwnedByTwos t, String word, int want) {
        t.image(3);
        due("II: " + word, t.nod(law(t, "price 5000+" + word), 0, 0, 1), want == 0 ? 5000 : 5000 + want);
        t.back(3);
    }

    static void part2WordsAtTheirLeast() {
        OwnedByTwos t = Towns.people(3);
        t.thing(1, 2, 0);
        t.work(0, 1, 0, 0);
        t.like(1, 0, -9);
        t.like(1, 2, -9);
        due("II: " + "worth+use+coin+day+given+shared+near+year",
                t.nod(law(t, "price 1 if worth+use+coin+day+given+shared+near+year=0"), 0, 0, 1), 1);
        word(t, "like", -9);
        word(t, "mate", -9);
        word(t, "owns", 1);
    }

    static void part2WordsAtTheirMost() {
        OwnedByTwos t = Towns.with(99999, 0, 0, 0, 0, 0, 0, 0, 0, 0, 0, 0);
        t.thing(1, 2, 999);
        for (int i = 0; i < 23; i++) {
            t.thing(i % 2, 1 - i % 2, 0);
        }
        for (int i = 2; i < 12; i++) {
            t.quarrel(1, i, true);
        }
        t.work(0, 1, 4999, 99);
        t.like(1, 0, 9);
        t.like(1, 2, 9);
        due("II: all", t.nod(law(t, "price 1 if like=9 and mate=9 and worth=4999 and use=999 and owns=24 and coin=99999"
                + " and day=99 and shared=23 and near=10"), 0, 0, 1), 1);
    }

    /** The last of 24 THINGS, whose owners are the last of 12 PEOPLE, the last of 12 WORKS. */
    static void part2WordsOfTheLast() {
        OwnedByTwos t = Towns.people(12);
        Towns.things(t, 23);
        t.thing(10, 11, 321);
        for (int i = 0; i < 12; i++) {
            t.work(9, i < 11 ? 1 : 1 << 23, 10 * i, i);
        }
        t.like(10, 9, 1);
        t.like(10, 11, 2);
        t.like(11, 9, 3);
        t.like(11, 10, 4);
        law(t, "price like*1000+mate*100+worth/10;price 1");
        due("II: of the first owner", t.nod(0, 11, 23, 10), 1211);
        due("II: of the second owner", t.nod(0, 11, 23, 11), 3411);
        law(t, "price use+owns*1000+day");
        due("II: of the thing", t.nod(1, 11, 23, 10), 1332);
        law(t, "yes like-1");
        due("II: who bars", t.bars(2, 11), 10);
        t.like(10, 9, 2);
        due("II: none", t.bars(2, 11), -2);
        t.quarrel(10, 11, true);
        due("II: both nod: the first", t.bars(2, 11), 10);
    }

    static void part2YearAtItsMost() {
        OwnedByTwos t = asking();
        law(t, "price year");
        due("II: year 0", t.nod(0, 0, 0, 1), -2);
        Towns.toYear(t, 9999);
        due("II: year 9999", t.nod(0, 0, 0, 1), 9999);
    }

    static void part2GivenLessWhatCameBack() {
        OwnedByTwos t = Towns.people(2);
        Towns.things(t, 1);
        t.work(0, 1, 0, 0);
        t.work(1, 1, 0, 1);
        t.work(1, 1, 0, 2);
        law(t, "yes 1");
        word(t, "given", 0);
        t.does(0, 1);
        t.does(0, 2);
        word(t, "given", -2);
        t.does(0, 0);
        word(t, "given", -1);
    }

    static void part2NotIfHeQuarrelsWithTheAsker() {
        OwnedByTwos t = asking();
        law(t, "yes 1;price 5");
        due("II: for nothing", t.nod(0, 0, 0, 1), 0);
        t.quarrel(0, 1, true);
        due("II: not", t.nod(0, 0, 0, 1), -2);
        t.quarrel(0, 1, false);
        due("II: again", t.nod(0, 0, 0, 1), 0);
    }

    static void part2YesAbove0() {
        price("yes 1;price 7", 0);
        price("yes 0;price 7", 7);
        price("yes 0-1;price 7", 7);
        price("yes 99999*99999;price 7", 0);
    }

    static void part2PriceHeldTo0To9999() {
        price("price 0-1", -2);
        price("price 0", -2);
        price("price 1", 1);
        price("price 9998", 9998);
        price("price 9999", 9999);
        price("price 10000", 9999);
        price("price 99999*99999", 9999);
        price("price 65536*65536", 9999);
        price("price 0-65536*65536+1", -2);
    }

    static void part2AnAskerWhoIsAnOwnerNodsForNothing() {
        OwnedByTwos t = asking();
        due("II: though none nods", t.nod(law(t, "nods 2"), 0, 0, 0), 0);
        due("II: though all want coin", t.nod(law(t, "price 5"), 0, 0, 0), 0);
        t.quarrel(0, 1, true);
        due("II: though he quarrels", t.nod(1, 0, 0, 0), 0);
    }

    static void part2NodsHeldTo1To2() {
        OwnedByTwos t = Towns.people(3);
        t.thing(1, 2, 0);
        t.work(0, 1, 0, 0);
        t.like(1, 0, 1);
        String[] sums = {"0-9", "0", "1", "2", "3", "99999*99999"};
        int[] want = {0, 0, 0, -2, -2, -2};
        for (int i = 0; i < sums.length; i++) {
            due("II: nods " + sums[i], t.had(law(t, "yes like;nods " + sums[i]), 0, 0), want[i]);
        }
    }

    static void part2NodsByFiveWordsTheOthers0() {
        OwnedByTwos t = Towns.with(5, 0, 0);
        t.thing(1, 2, 6);
        t.work(0, 1, 7, 8);
        t.work(0, 1, 7, 9);
        for (int i = 1; i < 3; i++) {
            t.like(i, 0, 1);
            t.like(i, 3 - i, 2);
        }
        law(t, "yes 1");
        t.does(0, 1);
        t.back(0);
        law(t, "yes 1;nods 1 if like=0 and mate=0 and owns=0 and given=0 and shared=0 and near=0");
        law(t, "yes 1;nods 1 if like*like+mate*mate+owns+given+shared+near>0");
        t.quarrel(1, 2, true);
        due("II: the others are 0", t.had(1, 0, 0), 0);
        due("II: they are not more", t.had(2, 0, 0), -2);
        law(t, "yes 1;nods 1 if worth=7 and use=6 and coin=12 and day=8 and year=0");
        due("II: the five are not", t.had(3, 0, 0), 0);
    }

    static void part2HadWith2BothNodAndDontQuarrel() {
        OwnedByTwos t = Towns.people(3);
        t.thing(1, 2, 0);
        t.work(0, 1, 0, 0);
        law(t, "price 9999");
        due("II: both prices", t.had(0, 0, 0), 19998);
        t.quarrel(1, 2, true);
        due("II: they quarrel", t.had(0, 0, 0), -2);
        t.quarrel(1, 2, false);
        t.quarrel(0, 1, true);
        due("II: the first does not nod", t.had(0, 0, 0), -2);
        t.quarrel(0, 1, false);
        t.quarrel(0, 2, true);
        due("II: the second does not nod", t.had(0, 0, 0), -2);
    }

    static void part2HadWith1ForTheLesserPrice() {
        OwnedByTwos t = Towns.people(3);
        t.thing(1, 2, 0);
        t.work(0, 1, 0, 0);
        law(t, "price 5+like;nods 1");
        due("II: alike", t.had(0, 0, 0), 5);
        t.like(1, 0, 1);
        due("II: the second's is less", t.had(0, 0, 0), 5);
        t.like(2, 0, 2);
        due("II: the first's is less", t.had(0, 0, 0), 6);
        t.like(1, 0, -5);
        due("II: the second alone nods", t.had(0, 0, 0), 7);
        t.like(2, 0, -5);
        due("II: none nods", t.had(0, 0, 0), -2);
        t.like(1, 0, 0);
        due("II: the first alone nods", t.had(0, 0, 0), 5);
        t.quarrel(1, 2, true);
        due("II: though they quarrel", t.had(0, 0, 0), 5);
    }

    static void part2OfAlikePricesTheFirstOwners() {
        OwnedByTwos t = Towns.with(100, 0, 0);
        t.thing(2, 1, 0);
        t.thing(1, 2, 0);
        t.work(0, 1, 0, 0);
        t.work(0, 2, 0, 0);
        law(t, "price 5;nods 1");
        t.does(0, 0);
        due("II: the first owner gets it", t.of(2, 0), 5);
        due("II: the second does not", t.of(1, 0), 0);
        due("II: that one's is the nod", t.two(2, 0, 3) * 10 + t.two(1, 0, 3), 10);
        t.does(0, 1);
        due("II: the first owner gets it", t.of(1, 0), 5);
        due("II: that one's is the nod", t.two(2, 0, 3) * 10 + t.two(1, 0, 3), 11);
    }

    static void part2CanIfItIsNotDoneAndTheAskerLives() {
        OwnedByTwos t = Towns.people(3);
        t.thing(1, 2, 0);
        t.work(0, 1, 0, 0);
        law(t, "yes 1");
        due("II: it can", t.can(0, 0), 1);
        t.image(0);
        t.does(0, 0);
        due("II: it is done", t.can(0, 0), 0);
        t.back(0);
        t.dies(0);
        due("II: the asker is dead", t.can(0, 0), 0);
        t.back(0);
        due("II: he lives", t.can(0, 0), 1);
    }

    static void part2CanIfNoThingIsTakenOnItsDay() {
        OwnedByTwos t = Towns.people(2);
        Towns.things(t, 5);
        t.work(0, 15, 0, 99);
        t.work(0, 8, 0, 99);
        t.work(0, 8, 0, 98);
        t.work(0, 16, 0, 99);
        t.work(0, 24, 0, 99);
        law(t, "yes 1");
        t.does(0, 0);
        due("II: taken that day", t.can(0, 1), 0);
        due("II: another day", t.can(0, 2), 1);
        due("II: another thing", t.can(0, 3), 1);
        due("II: one of two is taken", t.can(0, 4), 0);
    }

    static void part2CanForNotMoreThanTheAskersCoin() {
        OwnedByTwos t = Towns.with(20, 0, 0);
        t.thing(1, 2, 0);
        t.thing(0, 1, 0);
        t.work(0, 1, 9999, 0);
        t.work(0, 3, 9999, 0);
        law(t, "price 10");
        due("II: for just as much", t.can(0, 0), 1);
        due("II: for more, together", t.can(0, 1), 0);
        law(t, "price 11");
        due("II: for more", t.can(1, 0), 0);
        law(t, "yes 1");
        OwnedByTwos u = Towns.people(2);
        Towns.things(u, 1);
        u.work(0, 1, 0, 0);
        due("II: without coin for nothing", u.can(law(u, "yes 1"), 0), 1);
        due("II: without coin for 1", u.can(law(u, "price 1"), 0), 0);
    }

    static void part2CoinAtMost99999OfWhoGetsIt() {
        OwnedByTwos t = Towns.with(100, 99989, 99990);
        t.thing(1, 2, 0);
        t.work(0, 1, 0, 0);
        law(t, "price 10");
        t.does(0, 0);
        due("II: just as much", t.of(1, 0), 99999);
        due("II: held", t.of(2, 0), 99999);
        due("II: paid all the same", t.of(0, 0), 80);
    }

    static void part2CoinAtMost99999OfTheAsker() {
        OwnedByTwos t = Towns.with(99999, 0, 99000);
        t.thing(0, 1, 0);
        t.work(0, 1, 10, 0);
        t.work(0, 1, 11, 1);
        t.work(0, 1, 9999, 2);
        t.image(0);
        law(t, "price 10");
        t.does(0, 0);
        due("II: less, then more", t.of(0, 0), 99999);
        t.back(0);
        t.does(0, 1);
        due("II: held", t.of(0, 0), 99999);
        due("II: he paid", t.of(1, 0), 10);
        t.back(0);
        law(t, "yes 1");
        t.does(1, 2);
        due("II: held", t.of(0, 0), 99999);
    }

    static void part2AllByWhatThereWasAheadOfIt() {
        OwnedByTwos t = Towns.with(100, 0, 0);
        t.thing(1, 2, 0);
        t.thing(2, 1, 0);
        t.work(0, 3, 50, 0);
        law(t, "price coin/10 if given=0;yes given");
        due("II: four prices of the coin ahead", t.does(0, 0), 40);
        due("II: the asker's coin", t.of(0, 0), 110);
        due("II: an owner's coin", t.of(1, 0), 20);
        due("II: nods given", t.two(1, 0, 3), 2);
    }

    static void part2BarsTheFirstOwnerWhoDoesNotNod() {
        OwnedByTwos t = Towns.people(4);
        t.thing(1, 2, 0);
        t.thing(2, 3, 0);
        t.work(0, 3, 0, 0);
        law(t, "yes like+1");
        due("II: none", t.bars(0, 0), -2);
        t.like(3, 0, -1);
        due("II: the second of the second", t.bars(0, 0), 3);
        t.like(2, 0, -1);
        due("II: of the first thing", t.bars(0, 0), 2);
        t.like(1, 0, -1);
        due("II: the first owner", t.bars(0, 0), 1);
        t.like(1, 0, 0);
        t.like(2, 0, 0);
        t.like(3, 0, 0);
        t.quarrel(2, 3, true);
        due("II: both nod: the first", t.bars(0, 0), 2);
    }

    static void part2BarsWithOneNod() {
        OwnedByTwos t = Towns.people(3);
        t.thing(2, 1, 0);
        t.work(0, 1, 0, 0);
        law(t, "yes like;nods 1");
        due("II: none nods: the first", t.bars(0, 0), 2);
        t.like(1, 0, 1);
        due("II: one is enough", t.bars(0, 0), -2);
    }

    // ---- III: ROW, CHAIN, ALL, SHARE

    static void part3RowTwelveAtMost() {
        OwnedByTwos t = Towns.people(2);
        Towns.things(t, 1);
        for (int i = 0; i < 12; i++) {
            t.work(0, 1, 1, i);
        }
        law(t, "yes 1");
        due("III: an empty row", t.judged(0, 0), -1);
        due("III: an empty row", t.judged(0, 1), 0);
        for (int i = 0; i < 12; i++) {
            due("III: one more", t.row(11 - i), i + 1);
        }
        due("III: a thirteenth", t.row(0), -2);
        due("III: all twelve can", t.judged(0, 0), -1);
        due("III: worth of twelve", t.judged(0, 1), 12);
        due("III: coin then", t.then(0, 0), 12);
    }

    static void part3JudgedTheFirstAndTheLastOfTheRow() {
        OwnedByTwos t = Towns.people(2);
        Towns.things(t, 1);
        for (int i = 0; i < 12; i++) {
            t.work(0, 1, 9999, i % 11);
            t.row(i);
        }
        law(t, "yes 1");
        law(t, "yes 0");
        due("III: the last can't", t.judged(0, 0), 11);
        due("III: worth of eleven", t.judged(0, 1), 11 * 9999);
        due("III: coin is held", t.then(0, 0), 99999);
        due("III: the first can't", t.judged(1, 0), 0);
        due("III: worth of none", t.judged(1, 1), 0);
        due("III: coin as it is", t.then(1, 0), 0);
    }

    static void part3JudgedNothingChanges() {
        Shown.nothingHappens("III: judged", Towns::small, t -> t.judged(0, 0), 1);
        Shown.nothingHappens("III: then", Towns::small, t -> t.then(0, 0), 130);
    }

    static void part3ChainTheFewestThenTheLeast() {
        OwnedByTwos t = Towns.people(4);
        t.thing(0, 1, 0);
        t.thing(0, 1, 0);
        t.thing(2, 3, 0);
        t.work(1, 4, 0, 0);
        t.work(1, 2, 0, 1);
        t.work(1, 2, 0, 2);
        t.work(0, 1, 0, 3);
        law(t, "yes like");
        due("III: fewest, then the least", t.chain(0, 3), 8 + 2);
        due("III: from the other end", t.chain(0, 1), 8 + 2);
        due("III: from another", t.chain(0, 2), 8 + 4);
        due("III: none", t.chain(0, 0), -2);
        t.like(1, 0, 1);
        due("III: it alone", t.chain(0, 3), 8);
    }

    static void part3ChainOfAllTwelve() {
        OwnedByTwos t = Towns.people(12);
        for (int i = 0; i < 12; i++) {
            t.thing(i, (i + 1) % 12, 0);
            t.work(i, 1 << i, 0, 0);
        }
        law(t, "yes like");
        due("III: twelve", t.chain(0, 0), 4095);
        due("III: twelve", t.chain(0, 11), 4095);
        t.like(1, 0, 1);
        due("III: one is enough", t.chain(0, 0), 1);
        due("III: to that one", t.chain(0, 11), 1 << 11 | 1);
        due("III: all but none of them less", t.chain(0, 1), 4095);
    }

    static void part3ChainOfThoseNotDoneAndAskersLiving() {
        OwnedByTwos t = Towns.people(4);
        t.thing(0, 1, 0);
        t.thing(1, 2, 0);
        t.work(0, 1, 0, 0);
        t.work(1, 2, 0, 0);
        t.work(2, 2, 0, 1);
        law(t, "yes like");
        due("III: nods for nods", t.chain(0, 0), 7);
        t.image(0);
        t.does(law(t, "yes 1"), 2);
        due("III: one is done", t.chain(0, 0), -2);
        t.back(0);
        t.dies(2);
        due("III: its asker is dead", t.chain(0, 2), -2);
        due("III: his half went to 0", t.chain(0, 0), 3);
    }

    static void part3ChainOfOneDay() {
        OwnedByTwos t = Towns.people(2);
        Towns.things(t, 2);
        t.work(0, 1, 0, 5);
        t.work(1, 1, 0, 5);
        law(t, "yes like");
        due("III: a thing in two of one day", t.chain(0, 0), -2);
        t.work(1, 1, 0, 6);
        due("III: of another day", t.chain(0, 0), 1 + 4);
        t.work(1, 2, 0, 5);
        due("III: of another thing, but greater", t.chain(0, 0), 1 + 4);
        law(t, "yes 1");
        t.does(1, 1);
        due("III: in one that is done of that day", t.chain(1, 0), -2);
        due("III: not of that day", t.chain(1, 2), 4);
    }

    static void part3ChainWhateverThePricesAre() {
        OwnedByTwos t = Towns.people(3);
        t.thing(1, 2, 0);
        t.work(0, 1, 0, 0);
        law(t, "price 9999");
        due("III: it can't be paid", t.can(0, 0), 0);
        due("III: but it is a chain", t.chain(0, 0), 1);
        t.quarrel(1, 2, true);
        due("III: owners who quarrel", t.chain(0, 0), -2);
    }

    static void part3ChainNotOfOnesWhoQuarrelWithTheAsker() {
        OwnedByTwos t = Towns.people(2);
        Towns.things(t, 1);
        t.work(0, 1, 0, 0);
        t.work(1, 1, 0, 1);
        law(t, "yes 0");
        due("III: nods for nods", t.chain(0, 0), 3);
        t.quarrel(0, 1, true);
        due("III: not if they quarrel", t.chain(0, 0), -2);
        law(t, "yes 0;nods 1");
        due("III: the asker's own is enough", t.chain(1, 0), 1);
    }

    static void part3ChainWithOneNod() {
        OwnedByTwos t = Towns.people(4);
        t.thing(1, 2, 0);
        t.thing(1, 3, 0);
        t.work(0, 1, 0, 0);
        t.work(0, 2, 0, 0);
        t.work(1, 1, 0, 1);
        t.work(2, 1, 0, 2);
        t.work(3, 2, 0, 3);
        t.work(0, 3, 0, 4);
        law(t, "yes 0;nods 1");
        due("III: one of two askers, the least", t.chain(0, 0), 1 + 4);
        due("III: for two things one asker of both", t.chain(0, 5), 32 + 4);
        t.image(0);
        t.quarrel(0, 1, true);
        due("III: the first quarrels with the asker", t.chain(0, 0), 1 + 8);
        due("III: for each thing the other one", t.chain(0, 5), 32 + 16 + 8);
        t.quarrel(0, 2, true);
        due("III: both quarrel with the asker", t.chain(0, 0), -2);
        due("III: one thing of two can't be had", t.chain(0, 5), -2);
        t.back(0);
        t.quarrel(1, 2, true);
        due("III: the owners may quarrel", t.chain(0, 0), 1 + 4);
        t.like(2, 0, 1);
        law(t, "yes like;nods 1");
        due("III: one nods anyway", t.chain(1, 0), 1);
        due("III: the other thing needs one", t.chain(1, 5), 32 + 4);
        t.dies(1);
        due("III: by what is then", t.chain(1, 0), 1);
    }

    static void part3ChainOfFourThingsWithBothNods() {
        OwnedByTwos t = Towns.people(9);
        for (int i = 0; i < 4; i++) {
            t.thing(2 * i + 1, 2 * i + 2, 0);
        }
        t.work(0, 15, 0, 0);
        for (int i = 0; i < 8; i++) {
            t.thing(0, i + 1, 0);
            t.work(i + 1, 16 << i, 0, 0);
        }
        law(t, "yes like");
        due("III: all eight must ask", t.chain(0, 0), 511);
        t.quarrel(0, 8, true);
        due("III: the last quarrels with the asker", t.chain(0, 0), -2);
        t.quarrel(0, 8, false);
        t.quarrel(7, 8, true);
        due("III: the last owners quarrel", t.chain(0, 0), -2);
        t.quarrel(7, 8, false);
        t.like(8, 0, 1);
        due("III: seven must", t.chain(0, 0), 255);
    }

    /** What was reckoned for other WORKS under the same numbers is forgotten. */
    static void part3NothingIsKeptOfWorksThatAreGone() {
        OwnedByTwos t = Towns.people(3);
        Towns.things(t, 2);
        law(t, "yes 1");
        t.image(0);
        t.work(0, 1, 5, 0);
        t.work(0, 1, 5, 0);
        due("III: they clash", t.all(0, 0), 1);
        due("III: v", t.worth(3), 5);
        due("III: stopped by none", t.stopped() + t.least(), 1);
        t.back(0);
        t.work(0, 1, 5, 0);
        t.work(0, 1, 5, 1);
        due("III: these don't", t.all(0, 0), 3);
        due("III: v", t.worth(3), 10);
        t.back(0);
        t.work(2, 1, 5, 0);
        due("III: one alone", t.all(0, 0), 1);
        due("III: v of 0 and 1", t.worth(3), 0);
        due("III: v of all", t.worth(7), 5);
        due("III: chain", t.chain(0, 0), 1);
    }

    static void part3AllTheGreatestTheFewestTheLeast() {
        OwnedByTwos t = Towns.people(2);
        Towns.things(t, 3);
        law(t, "yes 1");
        due("III: of none", t.all(0, 0), 0);
        t.work(0, 1, 0, 0);
        due("III: of worth 0 none", t.all(0, 0), 0);
        t.work(0, 1, 4, 1);
        t.work(0, 2, 6, 1);
        t.work(0, 3, 10, 1);
        due("III: alike in worth: the fewest", t.all(0, 0), 8);
        t.work(0, 7, 10, 1);
        due("III: alike in worth and number: the least", t.all(0, 0), 8);
        t.work(0, 4, 1, 1);
        due("III: the greatest", t.all(0, 0), 8 + 32);
        due("III: its worth", t.all(0, 1), 11);
        t.does(0, 1);
        due("III: each by itself now", t.all(0, 0), 4 + 32);
    }

    static void part3SharePeople1To6() {
        OwnedByTwos t = Towns.people(7);
        due("III: none", t.share(0, 0, 1), NONE);
        due("III: one", t.share(64, 6, 1), 1);
        due("III: six", t.share(126, 6, 1), 1);
        due("III: seven", t.share(127, 6, 1), NONE);
    }

    static void part3ShareInLowestTerms() {
        int[] worths = {0, 1, 2, 3, 6, 9999, 60, 59};
        int[] above = {0, 1, 2, 1, 2, 3333, 20, 59};
        int[] below = {1, 3, 3, 1, 1, 1, 1, 3};
        for (int i = 0; i < worths.length; i++) {
            OwnedByTwos t = Towns.people(3);
            t.thing(0, 1, 0);
            t.work(2, 1, worths[i], 0);
            due("III: a third of " + worths[i] + ", above", t.share(7, 2, 0), above[i]);
            due("III: a third of " + worths[i] + ", below", t.share(7, 2, 1), below[i]);
        }
    }

    /** The worths differ, so that each order in which they could come tells. */
    static void part3ShareTheMeanOverAllOrders() {
        OwnedByTwos t = Towns.people(4);
        t.thing(0, 1, 0);
        t.thing(1, 2, 0);
        t.thing(2, 3, 0);
        t.work(0, 1, 7, 0);
        t.work(1, 2, 50, 0);
        t.work(3, 4, 400, 0);
        t.work(0, 7, 1000, 0);
        int[] v = new int[16];
        for (int set = 1; set < 16; set++) {
            int three = ((set & 3) == 3 ? 7 : 0) + ((set & 6) == 6 ? 50 : 0) + ((set & 12) == 12 ? 400 : 0);
            v[set] = set == 15 ? 1000 : three;
            due("III: v of " + set, t.worth(set), v[set]);
        }
        for (int person = 0; person < 4; person++) {
            long sum = 0;
            for (int order = 0; order < 256; order++) {
                sum += gainIn(order, person, v);
            }
            due("III: above", t.share(15, person, 0) * 24L, sum * t.share(15, person, 1));
        }
    }

    /** What one brings in an order of four, 0 if the digits are no order. */
    private static int gainIn(int order, int person, int[] v) {
        int here = 0;
        int gain = 0;
        for (int i = 0; i < 4; i++) {
            int comes = order >> 2 * i & 3;
            if ((here >> comes & 1) != 0) {
                return 0;
            }
            if (comes == person) {
                gain = v[here | 1 << comes] - v[here];
            }
            here |= 1 << comes;
        }
        return gain;
    }

    static void part3ShareWhateverLawsAndQuarrelsSay() {
        OwnedByTwos t = Towns.people(2);
        Towns.things(t, 1);
        t.work(0, 1, 9999, 0);
        t.quarrel(0, 1, true);
        due("III: v without laws", t.worth(3), 9999);
        due("III: half of it", t.share(3, 0, 0), 9999);
        due("III: half of it", t.share(3, 0, 1), 2);
    }

    static void part3WorthOfOneDayAndOfAllDays() {
        OwnedByTwos t = Towns.people(2);
        Towns.things(t, 1);
        for (int i = 0; i < 12; i++) {
            t.work(0, 1, 9999, i / 6);
        }
        due("III: one of each day", t.worth(3), 2 * 9999);
        t.does(law(t, "yes 1"), 0);
        due("III: those not done", t.worth(3), 2 * 9999);
        due("III: not one without the other", t.worth(1) + t.worth(2), 0);
    }

    // ---- IV: STOPS, LEAST, LAY, SWAP, TRADES, deaths

    static void part4NeedsUnlikeOnes() {
        OwnedByTwos t = Towns.people(4);
        t.thing(0, 1, 0);
        t.thing(2, 3, 0);
        t.work(0, 3, 0, 0);
        due("IV: the asker and an owner", t.two(0, 1, 4), 1);
        due("IV: the asker and an owner of the other", t.two(0, 3, 4), 1);
        due("IV: an owner and the asker", t.two(3, 0, 4), 1);
        due("IV: both owners of one", t.two(3, 2, 4), 1);
        due("IV: owners of two things", t.two(1, 2, 4), 0);
        due("IV: unlike", t.two(0, 0, 4), -100);
    }

    static void part4StopsNoneAndTwelve() {
        OwnedByTwos t = Towns.people(12);
        t.thing(10, 11, 0);
        due("IV: none", t.two(10, 11, 4), 0);
        for (int i = 0; i < 12; i++) {
            t.work(i, 1, 0, i);
        }
        due("IV: twelve", t.two(10, 11, 4), 12);
        due("IV: one", t.two(0, 11, 4), 1);
        t.does(law(t, "yes 1"), 0);
        due("IV: those not done", t.two(10, 11, 4), 11);
        due("IV: none is left", t.two(0, 11, 4), 0);
    }

    static void part4StoppedNowByQuarrels() {
        OwnedByTwos t = Towns.people(4);
        t.thing(0, 1, 0);
        t.work(2, 1, 0, 0);
        due("IV: without quarrels", t.stopped(), 0);
        t.quarrel(2, 3, true);
        due("IV: by one who owns nothing", t.stopped(), 0);
        t.quarrel(2, 1, true);
        due("IV: by asker and owner", t.stopped(), 1);
        t.quarrel(0, 1, true);
        due("IV: once", t.stopped(), 1);
        t.quarrel(2, 1, false);
        due("IV: by owners", t.stopped(), 1);
        t.quarrel(0, 1, false);
        due("IV: no more", t.stopped(), 0);
    }

    static void part4StoppedByTheLastThings() {
        OwnedByTwos t = Towns.people(12);
        Towns.things(t, 22);
        t.thing(8, 9, 0);
        t.thing(10, 11, 0);
        t.work(2, 1 << 22, 0, 0);
        t.work(3, 1 << 22, 0, 1);
        t.work(2, 1 << 23, 0, 0);
        t.work(3, 1, 0, 0);
        t.does(law(t, "yes 1"), 1);
        t.quarrel(8, 9, true);
        due("IV: one, for one is done", t.stopped(), 1);
        t.quarrel(2, 11, true);
        due("IV: one more by the last thing", t.stopped(), 2);
        t.quarrel(8, 9, false);
        due("IV: the last alone", t.stopped(), 1);
        t.quarrel(0, 1, true);
        due("IV: by the first thing", t.stopped(), 2);
        t = Towns.people(4);
        t.thing(2, 3, 0);
        t.thing(0, 1, 0);
        t.work(2, 1, 0, 0);
        t.work(0, 2, 0, 0);
        t.does(law(t, "yes 1"), 1);
        t.quarrel(2, 3, true);
        due("IV: though the next one is done", t.stopped(), 1);
    }

    static void part4LeastTheFewestTwos() {
        OwnedByTwos t = Towns.people(6);
        t.thing(0, 1, 0);
        t.thing(2, 3, 0);
        t.thing(4, 5, 0);
        due("IV: none", t.least(), 0);
        t.work(0, 1, 0, 0);
        t.work(2, 2, 0, 0);
        t.work(4, 4, 0, 0);
        due("IV: three", t.least(), 3);
        t.work(0, 3, 0, 1);
        t.work(2, 6, 0, 1);
        t.work(4, 5, 0, 1);
        due("IV: three still", t.least(), 3);
    }

    static void part4LayTheFirstOfTheFewest() {
        OwnedByTwos t = Towns.people(5);
        Towns.things(t, 4);
        t.work(4, 1, 0, 0);
        t.work(4, 2, 0, 1);
        t.work(4, 4, 0, 2);
        t.work(4, 8, 0, 3);
        due("IV: none is stopped", t.lay(15, 15, -1), 0);
        for (int k = 0; k < 4; k++) {
            due("IV: the first way", t.lay(15, 15, k), 1);
        }
        t.quarrel(4, 0, true);
        t.quarrel(1, 2, true);
        due("IV: the first that stops none", t.lay(15, 15, -1), 0);
        for (int k = 0; k < 4; k++) {
            due("IV: the first that stops none", t.lay(15, 15, k), 16 + 3);
        }
        t.quarrel(4, 1, true);
        t.quarrel(4, 2, true);
        t.quarrel(4, 3, true);
        due("IV: all are stopped", t.lay(15, 15, -1), 4);
        for (int k = 0; k < 4; k++) {
            due("IV: of alike ones the first", t.lay(15, 15, k), 1);
        }
        due("IV: the last two alone", t.lay(8, 12, 0), 2 * 16 + 3);
    }

    /** Two THINGS of one WORK: the later THING's owners change first. */
    static void part4LayWaysByTheThingsNumbers() {
        OwnedByTwos t = Towns.people(3);
        Towns.things(t, 2);
        t.work(0, 1, 0, 0);
        t.work(1, 2, 0, 0);
        t.quarrel(0, 1, true);
        due("IV: none is stopped", t.lay(3, 7, -1), 0);
        due("IV: the first thing", t.lay(3, 7, 0), 2);
        due("IV: the second thing", t.lay(3, 7, 1), 16 + 2);
        due("IV: by its place, the second thing alone", t.lay(2, 7, 0), 16 + 2);
    }

    /** Four of twelve have six twos; only the last of these stops fewer. */
    static void part4LayTheLastOfAllWays() {
        OwnedByTwos t = Towns.people(12);
        Towns.things(t, 20);
        for (int i = 0; i < 4; i++) {
            t.thing(8, 9, 0);
        }
        for (int i = 0; i < 12; i++) {
            t.work(i < 11 ? 7 : 8, i < 11 ? 1 << 20 + i % 4 : 0xf << 20, 0, i);
        }
        t.quarrel(7, 8, true);
        t.quarrel(7, 9, true);
        t.quarrel(8, 9, true);
        t.quarrel(8, 10, true);
        due("IV: twelve in the first way, one in the last", t.lay(0xf << 20, 0xf00, -1), 1);
        for (int k = 0; k < 4; k++) {
            due("IV: the last two", t.lay(0xf << 20, 0xf00, k), 10 * 16 + 11);
        }
        t.quarrel(7, 10, true);
        t.quarrel(7, 11, true);
        due("IV: eleven", t.lay(0xf << 20, 0xf00, -1), 11);
        for (int k = 0; k < 4; k++) {
            due("IV: the one way that stops eleven", t.lay(0xf << 20, 0xf00, k), 8 * 16 + 11);
        }
        t.quarrel(8, 11, true);
        due("IV: twelve in each way", t.lay(0xf << 20, 0xf00, -1), 12);
        due("IV: the first way", t.lay(0xf << 20, 0xf00, 3), 8 * 16 + 9);
    }

    static void part4SwapCantBe() {
        OwnedByTwos t = Towns.people(4);
        t.thing(0, 1, 0);
        t.thing(0, 2, 0);
        t.thing(2, 3, 0);
        due("IV: the two are the same one", t.swap(0, 0, 1, 0), false);
        due("IV: one thing", t.swap(0, 0, 0, 1), false);
        due("IV: it would have 0 twice", t.swap(0, 1, 1, 0), false);
        due("IV: the other would have 0 twice", t.swap(1, 0, 0, 1), false);
        due("IV: it can be", t.swap(0, 1, 1, 1), true);
        due("IV: each in the other's place", t.things(0, 1) * 10 + t.things(1, 1), 21);
        due("IV: 2 has both now", t.swap(0, 0, 2, 0), false);
        due("IV: it can be", t.swap(1, 0, 2, 1), true);
        due("IV: places", t.things(1, 0) * 10 + t.things(2, 1), 30);
    }

    static void part4ContentNoneLeastMost() {
        OwnedByTwos t = Towns.people(3);
        t.like(0, 1, 9);
        t.like(1, 0, -9);
        due("IV: without things", t.of(0, 5), 0);
        Towns.things(t, 24);
        due("IV: most", t.of(0, 5), 24 * 9);
        due("IV: least", t.of(1, 5), 24 * -9);
        due("IV: of one who owns none", t.of(2, 5), 0);
    }

    /** Two always gain by a SWAP, and their mates, who lose by it, gain by the next one. */
    static OwnedByTwos restless() {
        OwnedByTwos t = Towns.people(4);
        t.thing(0, 1, 0);
        t.thing(2, 3, 0);
        t.like(0, 3, 1);
        t.like(2, 1, 1);
        t.like(1, 0, 1);
        t.like(3, 2, 1);
        return t;
    }

    static void part4TradesFiftyAtMost() {
        OwnedByTwos t = restless();
        due("IV: fifty", t.trades(), 50);
        due("IV: not one more", t.things(0, 0) == 0 == (t.things(0, 1) == 1), true);
        due("IV: those who were together at first", t.two(0, 1, 2) * 10 + t.two(2, 3, 2), 11);
        due("IV: fifty again", t.trades(), 50);
        due("IV: without things", Towns.people(2).trades(), 0);
    }

    static void part4TradesBothMore() {
        OwnedByTwos t = Towns.people(4);
        t.thing(0, 1, 0);
        t.thing(2, 3, 0);
        t.like(0, 1, 5);
        t.like(0, 3, 5);
        t.like(2, 1, 9);
        due("IV: one would have as much", t.trades(), 0);
        t.like(0, 3, 6);
        due("IV: both would have one more at least", t.trades(), 1);
        due("IV: done", t.of(0, 5) * 10 + t.of(2, 5), 69);
    }

    static void part4TradesTheFirstThatCanBe() {
        OwnedByTwos t = Towns.people(6);
        t.thing(0, 1, 0);
        t.thing(2, 3, 0);
        t.thing(4, 5, 0);
        t.like(1, 2, 1);
        t.like(3, 0, 1);
        t.like(1, 4, 2);
        t.like(5, 0, 2);
        due("IV: second halves of the first two", t.trades(), 1);
        due("IV: places", t.things(0, 1) * 10 + t.things(1, 1), 31);
    }

    static void part4TradesOfTheLastHalves() {
        OwnedByTwos t = Towns.people(6);
        Towns.things(t, 22);
        t.thing(2, 3, 0);
        t.thing(4, 5, 0);
        t.like(3, 4, 1);
        t.like(5, 2, 1);
        due("IV: second halves of the last two", t.trades(), 1);
        due("IV: places", t.things(22, 1) * 10 + t.things(23, 1), 53);
        t = Towns.people(6);
        Towns.things(t, 22);
        t.thing(2, 3, 0);
        t.thing(4, 5, 0);
        t.like(2, 4, 1);
        t.like(5, 3, 1);
        due("IV: the first half of one, the second of the last", t.trades(), 1);
        due("IV: places", t.things(22, 0) * 10 + t.things(23, 1), 52);
    }

    static void part4DiesWhileThreeLive() {
        OwnedByTwos t = Towns.people(3);
        due("IV: three", t.dies(1), 0);
        due("IV: two", t.dies(0), NONE);
        due("IV: two", t.count(1), 2);
        due("IV: one comes", t.person(0), 3);
        due("IV: three", t.dies(3), 0);
    }

    static void part4CoinToTheFirstOfTheHeirsWhoLives() {
        OwnedByTwos t = Towns.with(1, 20, 300, 4000, 50000);
        t.heir(0, 4);
        t.heir(4, 3);
        t.image(0);
        t.dies(0);
        due("IV: to the heir", t.of(4, 0), 50001);
        due("IV: all of it", t.of(0, 0), 0);
        t.back(0);
        t.dies(4);
        due("IV: to that one's heir", t.of(3, 0), 54000);
        t.dies(0);
        due("IV: to the heir's heir", t.of(3, 0), 54001);
        t.dies(3);
        due("IV: without an heir to the least who lives", t.of(1, 0), 54021);
    }

    static void part4EachHeirIsAskedOnce() {
        OwnedByTwos t = Towns.with(1, 20, 300, 4000, 50000);
        t.heir(2, 3);
        t.heir(3, 4);
        t.heir(4, 3);
        t.dies(3);
        due("IV: to the heir", t.of(4, 0), 54000);
        t.dies(4);
        due("IV: all round, none lives", t.of(0, 0), 54001);
        t.dies(2);
        due("IV: into a ring, none lives", t.of(0, 0), 54301);
        OwnedByTwos u = Towns.with(1, 20, 300);
        u.heir(2, 1);
        u.heir(1, 2);
        u.dies(2);
        due("IV: a ring with himself", u.of(1, 0), 320);
    }

    static void part4HeirsOfOneAreNotAnothers() {
        OwnedByTwos t = Towns.with(1, 20, 300, 4000, 50000);
        t.heir(0, 4);
        t.dies(0);
        due("IV: to the heir", t.of(4, 0), 50001);
        t.dies(1);
        due("IV: without an heir to the least who lives", t.of(2, 0), 320);
        due("IV: not to another's heir", t.of(4, 0), 50001);
    }

    static void part4TheFirstOfAllMayBeAnHeir() {
        OwnedByTwos t = Towns.with(1, 20, 300, 4000);
        t.thing(3, 1, 0);
        t.like(1, 2, 9);
        t.heir(3, 0);
        t.dies(3);
        due("IV: the half", t.things(0, 0), 0);
        due("IV: the coin", t.of(0, 0), 4001);
    }

    static void part4ALineOfElevenHeirs() {
        OwnedByTwos t = Towns.with(1, 1, 1, 1, 1, 1, 1, 1, 1, 1, 1, 1);
        t.thing(0, 1, 0);
        for (int i = 0; i < 11; i++) {
            t.heir(i, i + 1);
        }
        for (int i = 1; i < 10; i++) {
            t.dies(i);
        }
        due("IV: to the tenth", t.of(10, 0), 10);
        due("IV: the half of 1 too", t.things(0, 1), 10);
        t.dies(0);
        due("IV: to the tenth", t.of(10, 0), 11);
        due("IV: to the eleventh, for the tenth has the other half", t.things(0, 0), 11);
    }

    static void part4CoinAtMost99999OfAnHeir() {
        OwnedByTwos t = Towns.with(9, 99990, 0, 10);
        t.heir(0, 1);
        t.heir(3, 1);
        t.dies(0);
        due("IV: just as much", t.of(1, 0), 99999);
        t.dies(3);
        due("IV: held", t.of(1, 0), 99999);
        due("IV: it is gone", t.of(3, 0), 0);
    }

    static void part4HalvesNotToTheOtherOwner() {
        OwnedByTwos t = Towns.people(5);
        t.thing(0, 1, 0);
        t.thing(2, 0, 0);
        t.thing(0, 3, 0);
        t.heir(0, 1);
        t.heir(1, 3);
        due("IV: three halves", t.dies(0), 3);
        due("IV: the heir is the other owner: to the next", t.things(0, 0), 3);
        due("IV: to the heir", t.things(1, 1), 1);
        due("IV: to the heir", t.things(2, 0), 1);
    }

    static void part4HalvesToWhomTheOtherOwnerLikesMost() {
        OwnedByTwos t = Towns.people(5);
        t.thing(0, 1, 0);
        t.image(0);
        t.dies(0);
        due("IV: all alike: the least", t.things(0, 0), 2);
        t.back(0);
        t.like(1, 3, 1);
        t.like(1, 4, 1);
        t.dies(0);
        due("IV: of several the least", t.things(0, 0), 3);
        t.back(0);
        t.like(1, 2, -9);
        t.like(1, 3, -9);
        t.like(1, 4, -9);
        t.like(1, 0, 9);
        t.dies(0);
        due("IV: the least liked alike", t.things(0, 0), 2);
        t.back(0);
        t.like(1, 4, 9);
        t.like(1, 0, 9);
        t.heir(0, 1);
        t.dies(0);
        due("IV: the heir is the other owner and has no heir", t.things(0, 0), 4);
        t.back(0);
        t.dies(4);
        t.like(1, 4, 9);
        t.dies(0);
        due("IV: one who lives", t.things(0, 0), 2);
    }

    static void part4HisQuarrelsAreGone() {
        OwnedByTwos t = Towns.people(12);
        for (int i = 0; i < 11; i++) {
            t.quarrel(11, i, true);
        }
        t.quarrel(0, 1, true);
        t.dies(11);
        due("IV: all but one are gone", t.count(5), 1);
        due("IV: his", t.of(11, 4), 0);
        due("IV: theirs", t.of(2, 4), 0);
        due("IV: of others they stay", t.of(0, 4), 1);
    }

    // ---- V: DRAWS, YEARS, RUNS, IMAGES

    /** Two who share one THING, and laws by which they surely fall out and make peace. */
    private static OwnedByTwos pair() {
        OwnedByTwos t = Towns.people(2);
        Towns.things(t, 1);
        return t;
    }

    static void part5XFrom0To2147483647And0AtFirst() {
        OwnedByTwos t = pair();
        due("V: 0 at first", t.count(9), 0);
        due("V: -1", t.seed(-1), NONE);
        due("V: the highest", t.seed(HIGH), 0);
        due("V: it was", t.count(9), HIGH);
        due("V: 0 again", t.seed(0), HIGH);
    }

    static void part5XGoesRoundAt2147483648() {
        long[] from = {0, 1, 12345, HIGH, 1406932606, 65536, 1L << 30};
        for (long x : from) {
            OwnedByTwos t = pair();
            law(t, "yes 1");
            t.seed((int) x);
            t.years(0, 1);
            long want = java.math.BigInteger.valueOf(x).multiply(java.math.BigInteger.valueOf(1103515245L))
                    .add(java.math.BigInteger.valueOf(12345)).mod(java.math.BigInteger.valueOf(2147483648L)).longValue();
            due("V: x behind " + x, t.count(9), want);
        }
    }

    /** An x whose next DRAW is the told one. */
    private static int before(int draw) {
        for (int x = 0; x < 1000000; x++) {
            long next = (x * 1103515245L + 12345L) % 2147483648L;
            if (next / 65536 % 1000 == draw) {
                return x;
            }
        }
        return NONE;
    }

    private static int yearBehind(String law, int draw, boolean quarrel) {
        OwnedByTwos t = pair();
        t.quarrel(0, 1, quarrel);
        law(t, law);
        t.seed(before(draw));
        return t.years(0, 1);
    }

    static void part5ADrawBelowQuarrel() {
        due("V: 0 is below 1", yearBehind("quarrel 1", 0, false), 1);
        due("V: 1 is not", yearBehind("quarrel 1", 1, false), 0);
        due("V: 0 is not below 0", yearBehind("quarrel 0", 0, false), 0);
        due("V: 998 is below 999", yearBehind("quarrel 999", 998, false), 1);
        due("V: 999 is not", yearBehind("quarrel 999", 999, false), 0);
        due("V: 999 is below 1000", yearBehind("quarrel 1000", 999, false), 1);
    }

    static void part5ADrawBelowPeace() {
        due("V: 0 is below 1", yearBehind("peace 1", 0, true), 0);
        due("V: 1 is not", yearBehind("peace 1", 1, true), 1);
        due("V: 0 is not below 0", yearBehind("peace 0", 0, true), 1);
        due("V: 998 is below 999", yearBehind("peace 999", 998, true), 0);
        due("V: 999 is not", yearBehind("peace 999", 999, true), 1);
        due("V: 999 is below 1000", yearBehind("peace 1000", 999, true), 0);
    }

    /** x / 65536 just before and just behind it is one more. */
    static void part5ADrawIsXBy65536() {
        for (int low : new int[] {0, 65535}) {
            int found = 0;
            for (int x = 0; x < 10000000 && found < 3; x++) {
                long next = (x * 1103515245L + 12345L) % 2147483648L;
                if (next % 65536 == low && next > 2000000000) {
                    found++;
                    int draw = (int) (next / 65536 % 1000);
                    due("V: not below the draw", yearFrom("quarrel " + draw, x), 0);
                    due("V: below one more", yearFrom("quarrel " + (draw + 1), x), 1);
                }
            }
            due("V: some were found", found, 3);
        }
    }

    private static int yearFrom(String law, int x) {
        OwnedByTwos t = pair();
        law(t, law);
        t.seed(x);
        return t.years(0, 1);
    }

    static void part5QuarrelAndPeaceHeldTo0To1000() {
        due("V: below 0", yearBehind("quarrel 0-1", 0, false), 0);
        due("V: far below", yearBehind("quarrel 0-99999*99999", 0, false), 0);
        due("V: above 1000", yearBehind("quarrel 1001", 999, false), 1);
        due("V: far above", yearBehind("quarrel 65536*65536", 999, false), 1);
        due("V: peace below 0", yearBehind("peace 0-1", 0, true), 1);
        due("V: peace above", yearBehind("peace 65536*65536", 999, true), 0);
    }

    static void part5ADrawThoughItCanChangeNothing() {
        for (int quarrel = 0; quarrel < 2; quarrel++) {
            for (String law : new String[] {"yes 1", "quarrel 1000;peace 1000", "quarrel 0;peace 0"}) {
                OwnedByTwos t = pair();
                t.quarrel(0, 1, quarrel == 1);
                law(t, law);
                t.years(0, 1);
                due("V: one draw", t.count(9), 12345);
            }
        }
    }

    static void part5NoDrawWithoutSharedAndQuarrel() {
        OwnedByTwos t = Towns.people(12);
        law(t, "quarrel 1000;peace 1000");
        due("V: none", t.years(0, 60), 0);
        due("V: no draw", t.count(9), 0);
        t.quarrel(10, 11, true);
        due("V: peace without shared", t.years(0, 1), 0);
        due("V: one draw", t.count(9), 12345);
    }

    static void part5OneAloneAndAllTwelve() {
        OwnedByTwos t = Towns.people(1);
        law(t, "quarrel 1000");
        due("V: one alone", t.years(0, 1), 0);
        OwnedByTwos u = Towns.people(12);
        law(u, "quarrel 1000");
        for (int i = 0; i < 24; i++) {
            u.thing(i % 12, (i + 1 + i / 12) % 12, 0);
        }
        due("V: all who share", u.years(0, 1), 24);
    }

    static void part5OfThoseWhoLive() {
        OwnedByTwos t = Towns.people(4);
        t.thing(2, 3, 0);
        law(t, "quarrel 1000");
        t.dies(3);
        due("V: the half went to 0", t.things(0, 1), 0);
        due("V: those who live", t.years(0, 1), 1);
        due("V: 0 and 2", t.two(0, 2, 1), 1);
        due("V: not the dead one", t.of(3, 4), 0);
        due("V: one draw", t.count(9), 12345);
    }

    static void part5TheLesserFirstThenTheOther() {
        OwnedByTwos t = Towns.people(4);
        t.thing(3, 2, 0);
        t.thing(3, 0, 0);
        t.thing(2, 0, 0);
        law(t, "quarrel 1000 if near=0");
        due("V: 0 and 2 are the first", t.years(0, 1), 1);
        due("V: 0 and 2", t.two(0, 2, 1), 1);
    }

    static void part5WordsAsItIsThen() {
        OwnedByTwos t = Towns.people(3);
        t.thing(0, 1, 0);
        t.thing(1, 0, 0);
        t.thing(1, 2, 0);
        t.like(0, 1, 9);
        t.like(1, 0, 9);
        t.work(1, 1, 0, 0);
        t.work(0, 3, 0, 1);
        law(t, "yes 1");
        t.does(0, 0);
        t.does(0, 1);
        law(t, "quarrel 1000 if like=18 and owns=5 and near=0 and given=3 and shared=2 and year=0");
        due("V: words of 0 and 1", t.years(1, 1), 1);
        law(t, "peace 1000 if like=18 and owns=5 and near=2 and given=3 and shared=2 and year=1"
                + " and mate+worth+use+coin+day=0");
        due("V: near of both, a year later, the others 0", t.years(2, 1), 0);
        t.like(0, 1, -9);
        t.like(1, 0, -9);
        law(t, "quarrel 1000 if like=0-18");
        due("V: the least like", t.years(3, 1), 1);
    }

    static void part5WordsOfTheLastTwo() {
        OwnedByTwos t = Towns.people(12);
        t.thing(11, 10, 0);
        t.thing(9, 10, 0);
        t.like(10, 11, 4);
        t.like(11, 10, 3);
        t.work(10, 1, 0, 0);
        t.work(11, 1, 0, 1);
        t.work(11, 1, 0, 2);
        law(t, "yes 1;quarrel 1000 if like=7 and owns=3 and near=1 and given=3 and shared=1 and year=0");
        for (int i = 0; i < 3; i++) {
            t.does(0, i);
        }
        t.quarrel(0, 10, true);
        due("V: the last two", t.years(0, 1), 2);
        due("V: they quarrel", t.two(10, 11, 1), 1);
    }

    static void part5YearIsOneMoreBehindAllTwos() {
        OwnedByTwos t = Towns.people(3);
        t.thing(0, 1, 0);
        t.thing(1, 2, 0);
        law(t, "quarrel 1000 if year=0");
        due("V: both in year 0", t.years(0, 1), 2);
        law(t, "peace 1000 if year=59");
        due("V: not before 59", t.years(1, 58), 2);
        due("V: in year 59", t.years(1, 1), 0);
        due("V: it is 60", t.count(8), 60);
    }

    static void part5Runs1To20() {
        OwnedByTwos t = pair();
        law(t, "quarrel 1000");
        due("V: 0 times", t.runs(0, 0, 1, 0), NONE);
        due("V: once", t.runs(0, 1, 1, 0), 1);
        due("V: 20 times", t.runs(0, 20, 1, 0), 20);
        due("V: 21 times", t.runs(0, 21, 1, 0), NONE);
    }

    static void part5RunsOf0To20Years() {
        OwnedByTwos t = pair();
        law(t, "quarrel 1000 if year=19");
        due("V: -1", t.runs(0, 1, -1, 0), NONE);
        due("V: 0 years", t.runs(0, 1, 0, 0), 0);
        due("V: 19 years", t.runs(0, 1, 19, 0), 0);
        due("V: 20 years", t.runs(0, 1, 20, 0), 1);
        due("V: 21 years", t.runs(0, 1, 21, 0), NONE);
        t.quarrel(0, 1, true);
        due("V: 0 years, as it is now", t.runs(0, 20, 0, 0), 20);
    }

    static void part5RunsWithXAsTheLastOneLeftIt() {
        OwnedByTwos t = pair();
        law(t, "quarrel 500");
        int want = 0;
        long x = 0;
        for (int i = 0; i < 20; i++) {
            x = (x * 1103515245L + 12345L) % 2147483648L;
            want += x / 65536 % 1000 < 500 ? 1 : 0;
        }
        due("V: by twenty draws", t.runs(0, 20, 1, 0), want);
        due("V: x stays", t.count(9), 0);
    }

    static void part5RunsNothingChanges() {
        Shown.nothingHappens("V: runs", Towns::late, t -> t.runs(0, 20, 20, 1), Towns.late().runs(0, 20, 20, 1));
        Shown.nothingHappens("V: runs", Towns::full, t -> t.runs(5, 20, 20, 0), Towns.full().runs(5, 20, 20, 0));
    }

    static void part5RunsInHowManySomeWorkCan() {
        OwnedByTwos t = pair();
        law(t, "yes 1");
        due("V: without works", t.runs(0, 20, 0, 1), 0);
        t.work(0, 1, 0, 0);
        due("V: in all", t.runs(0, 20, 0, 1), 20);
        t.quarrel(0, 1, true);
        due("V: in none", t.runs(0, 20, 0, 1), 0);
        t.quarrel(0, 1, false);
        t.does(0, 0);
        due("V: it is done", t.runs(0, 20, 0, 1), 0);
    }

    static void part5RunsTheMostQuarrels() {
        OwnedByTwos t = Towns.people(12);
        for (int i = 0; i < 12; i++) {
            t.thing(i, (i + 1) % 12, 0);
        }
        law(t, "quarrel 500");
        int most = 0;
        int together = 0;
        t.image(0);
        for (int i = 0; i < 20; i++) {
            int x = t.count(9);
            t.back(0);
            t.seed(x);
            int now = t.years(0, 1);
            most = Math.max(most, now);
            together += now;
        }
        t.back(0);
        due("V: the most", t.runs(0, 20, 1, 2), most);
        due("V: together", t.runs(0, 20, 1, 0), together);
        due("V: none", t.runs(0, 20, 0, 2), 0);
    }

    static void part5TowardsTheGreatestGroup() {
        OwnedByTwos t = Towns.people(12);
        due("V: one", t.towards(0), 1);
        for (int i = 0; i < 5; i++) {
            t.quarrel(2 * i, 2 * i + 1, true);
        }
        due("V: two", t.towards(0), 2);
        t.quarrel(9, 11, true);
        due("V: three", t.towards(0), 3);
        t.quarrel(0, 3, true);
        due("V: four", t.towards(0), 4);
        for (int i = 0; i < 11; i++) {
            t.quarrel(11 - i, 10 - i, true);
        }
        due("V: twelve", t.towards(0), 12);
        t.dies(5);
        t.quarrel(0, 3, false);
        due("V: parted by a death", t.towards(0), 6);
    }

    static void part5TowardsThroughOneInTheMiddle() {
        OwnedByTwos t = Towns.people(12);
        t.quarrel(0, 1, true);
        t.quarrel(0, 11, true);
        t.quarrel(1, 5, true);
        due("V: four", t.towards(0), 4);
        t.quarrel(11, 6, true);
        due("V: five", t.towards(0), 5);
        t.quarrel(0, 1, false);
        due("V: three and two", t.towards(0), 3);
    }

    static void part5MatesNoneAndEleven() {
        OwnedByTwos t = Towns.people(12);
        due("V: none", t.of(0, 6), 0);
        due("V: one of a single thing", pair().of(0, 6) * 10 + pair().of(1, 6), 11);
        for (int i = 0; i < 22; i++) {
            t.thing(i < 11 ? 0 : i - 10, i < 11 ? i + 1 : 0, 0);
        }
        due("V: eleven", t.of(0, 6), 11);
        due("V: one", t.of(11, 6), 1);
    }

    static void part5ClosestOfSeveralTheLeast() {
        OwnedByTwos t = Towns.people(12);
        t.thing(11, 10, 0);
        due("V: the only two", t.towards(1) * 100 + t.towards(2), 1011);
        t.thing(10, 3, 0);
        due("V: the lesser is less", t.towards(1) * 100 + t.towards(2), 310);
        t.thing(9, 3, 0);
        due("V: the other is less", t.towards(1) * 100 + t.towards(2), 309);
        t.thing(2, 11, 0);
        due("V: the lesser is less, the other more", t.towards(1) * 100 + t.towards(2), 211);
        t.thing(10, 11, 0);
        due("V: the most", t.towards(1) * 100 + t.towards(2), 1011);
        t.thing(0, 11, 0);
        due("V: the most still", t.towards(1) * 100 + t.towards(2), 1011);
        t.thing(11, 0, 0);
        due("V: the first of all", t.towards(1) * 100 + t.towards(2), 11);
    }

    static void part5ImagesFrom0To3() {
        OwnedByTwos t = Towns.bare();
        due("V: -1", t.image(-1), NONE);
        due("V: 4", t.image(4), NONE);
        for (int k = 0; k < 4; k++) {
            t.seed(k + 1);
            due("V: made", t.image(k), 0);
        }
        for (int k = 0; k < 4; k++) {
            due("V: gone back to", t.back(k), 0);
            due("V: as it was", t.count(9), k + 1);
        }
        t.seed(77);
        t.image(2);
        t.back(3);
        due("V: made anew", t.back(2) == 0 && t.count(9) == 77, true);
    }

    /** All that shows the state of a full town is as it was, whatever was done behind the IMAGE. */
    static void part5AnImageHoldsAll() {
        Shown.Maker maker = () -> {
            OwnedByTwos t = Towns.full();
            t.image(1);
            return t;
        };
        Shown.nothingHappens("V: gone back to", maker, t -> {
            t.like(0, 1, 3);
            t.heir(0, NONE);
            t.quarrel(7, 9, true);
            t.quarrel(0, 2, false);
            t.does(5, 7);
            t.row(NONE);
            t.row(3);
            t.swap(0, 0, 5, 0);
            t.trades();
            t.dies(6);
            t.seed(5);
            t.years(0, 60);
            return t.back(1);
        }, 12);
    }

    /** The same numbers stand for others in two IMAGES. */
    static void part5ImagesOfUnlikeTowns() {
        OwnedByTwos t = Towns.bare();
        t.image(0);
        t.person(1);
        t.person(2);
        t.thing(0, 1, 3);
        t.work(0, 1, 4, 5);
        t.row(0);
        t.image(1);
        t.back(0);
        t.person(6);
        t.person(7);
        t.thing(1, 0, 8);
        t.thing(1, 0, 8);
        t.work(1, 3, 9, 10);
        t.work(1, 1, 9, 11);
        t.row(1);
        t.image(2);
        int[][] want = {{1, 2, 0, 1, 3, 0, 1, 4, 5}, {6, 7, 1, 0, 8, 1, 3, 9, 10}};
        law(t, "yes 1");
        for (int i = 0; i < 4; i++) {
            due("V: gone back to", t.back(1 + i % 2), 2);
            int[] got = {t.of(0, 0), t.of(1, 0), t.things(0, 0), t.things(0, 1), t.things(0, 2), t.works(0, 0),
                t.works(0, 1), t.works(0, 2), t.works(0, 3)};
            for (int k = 0; k < got.length; k++) {
                due("V: as it was, " + k, got[k], want[i % 2][k]);
            }
            due("V: the row as it was", t.judged(0, 1), i % 2 == 0 ? 4 : 9);
            due("V: the asker's coin then", t.then(0, i % 2), i % 2 == 0 ? 5 : 16);
        }
    }

    static void part5LawsAndTheTapeStay() {
        OwnedByTwos t = pair();
        t.image(0);
        law(t, "yes 1");
        Check.write(t, "yes 2");
        due("V: gone back to", t.back(0), 2);
        due("V: the law stays", t.count(6), 1);
        due("V: the tape stays", t.count(10), 5);
        due("V: it is a law", t.law(), 1);
    }
}
