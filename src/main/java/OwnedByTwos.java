import java.util.Arrays;

/** A town in which each thing belongs to two people, and nothing is done with it but by their nods. */
public final class OwnedByTwos {
    public static final int NONE = -1;

    private static final int CANT = -2;
    private static final int NOT_THERE = -100;

    private static final int MOST_PEOPLE = 12;
    private static final int MOST_THINGS = 24;
    private static final int MOST_WORKS = 12;
    private static final int MOST_IN_ROW = 12;
    private static final int MOST_IMAGES = 4;
    private static final int MOST_LAWS = 6;
    private static final int MOST_TAPE = 400;
    private static final int MOST_COIN = 99999;
    private static final int MOST_LIKE = 9;
    private static final int MOST_USE = 999;
    private static final int MOST_WORTH = 9999;
    private static final int MOST_PRICE = 9999;
    private static final int MOST_DAY = 99;
    private static final int MOST_THINGS_OF_WORK = 4;
    private static final int MOST_SHARERS = 6;
    private static final int MOST_LAID = 4;
    private static final int MOST_TRADES = 50;
    private static final int MOST_YEAR = 9999;
    private static final int MOST_YEARS = 60;
    private static final int MOST_RUNS = 20;
    private static final int MOST_RUN_YEARS = 20;
    private static final int SURE = 1000;

    private static final int MOST_CLAUSES = 12;
    private static final int MOST_DEEP = 10;
    private static final int MOST_COUNTED = 60;
    private static final int MOST_DIGITS = 5;

    private static final String SORTS = "yes price nods quarrel peace";
    private static final int YES = 0;
    private static final int PRICE = 1;
    private static final int NODS = 2;
    private static final int QUARREL = 3;
    private static final int PEACE = 4;

    private static final String WORDS = "like mate worth use owns coin day given shared near year";
    private static final int LIKE = 0;
    private static final int MATE = 1;
    private static final int WORTH = 2;
    private static final int USE = 3;
    private static final int OWNS = 4;
    private static final int COIN = 5;
    private static final int DAY = 6;
    private static final int GIVEN = 7;
    private static final int SHARED = 8;
    private static final int NEAR = 9;
    private static final int YEAR = 10;
    private static final int WORD_COUNT = 11;

    /** In a LAW's code a NUMBER stands for itself, a WORD as -1 - its number, these below all WORDS. */
    private static final int ADD = -'+';
    private static final int SUBTRACT = -'-';
    private static final int MULTIPLY = -'*';
    private static final int DIVIDE = -'/';
    private static final int LESS = -'<';
    private static final int SAME = -'=';
    private static final int MORE = -'>';
    private static final int AT_MOST = -200;
    private static final int AT_LEAST = -201;
    private static final int NOT = -202;
    private static final int AND = -203;
    private static final int OR = -204;

    private static final int CANT_STAND = 0;
    private static final int TOO_LONG = 1;
    private static final int TOO_DEEP = 2;
    private static final int TOO_MANY = 3;
    private static final int THIRTEENTH = 4;

    private final Town town = new Town();
    private final Town trial = new Town();
    private final Town[] images = new Town[MOST_IMAGES];
    private final boolean[] made = new boolean[MOST_IMAGES];
    private final Law[] laws = new Law[MOST_LAWS];
    private int lawCount = 0;
    private final Tape tape = new Tape();
    private final Nods nods = new Nods();
    private final Sets sets = new Sets();
    private final Strife strife = new Strife();
    private final Halves halves = new Halves();
    private final Years calendar = new Years();
    private int worthBefore = 0;

    public OwnedByTwos() {
        for (int i = 0; i < MOST_IMAGES; i++) {
            images[i] = new Town();
        }
        for (int i = 0; i < MOST_LAWS; i++) {
            laws[i] = new Law();
        }
    }

    // ---- who and what there is

    public int person(int coin) {
        if (town.people >= MOST_PEOPLE || !within(coin, MOST_COIN)) {
            return NONE;
        }
        int number = town.people++;
        town.coin[number] = coin;
        town.heir[number] = NONE;
        town.living |= 1 << number;
        return number;
    }

    public int like(int of, int to, int n) {
        if (!town.areTwo(of, to) || n < -MOST_LIKE || n > MOST_LIKE) {
            return NOT_THERE;
        }
        int was = town.liking[of * MOST_PEOPLE + to];
        town.liking[of * MOST_PEOPLE + to] = n;
        return was;
    }

    public boolean quarrel(int one, int other, boolean is) {
        if (one == other || !town.isAlive(one) || !town.isAlive(other)) {
            return false;
        }
        if (town.atOdds(one, other) == is) {
            return false;
        }
        town.setOdds(one, other, is);
        return true;
    }

    public int heir(int of, int to) {
        if (!town.isPerson(of) || to != NONE && !town.areTwo(of, to)) {
            return CANT;
        }
        int was = town.heir[of];
        town.heir[of] = to;
        return was;
    }

    public int thing(int first, int second, int use) {
        if (town.things >= MOST_THINGS || !within(use, MOST_USE)) {
            return NONE;
        }
        if (first == second || !town.isAlive(first) || !town.isAlive(second)) {
            return NONE;
        }
        int number = town.things++;
        town.owner[2 * number] = first;
        town.owner[2 * number + 1] = second;
        town.use[number] = use;
        return number;
    }

    public int work(int asker, int things, int worth, int day) {
        if (town.works >= MOST_WORKS || !town.isAlive(asker)) {
            return NONE;
        }
        if (!isSet(things, town.things, 1, MOST_THINGS_OF_WORK)) {
            return NONE;
        }
        if (!within(worth, MOST_WORTH) || !within(day, MOST_DAY)) {
            return NONE;
        }
        int number = town.works++;
        town.asker[number] = asker;
        town.kit[number] = things;
        town.worth[number] = worth;
        town.day[number] = day;
        return number;
    }

    // ---- the TAPE and the LAWS

    public int feed(int a, int b, int c, int d, int e) {
        if (tape.length > MOST_TAPE - 20) {
            return NONE;
        }
        tape.put(a);
        tape.put(b);
        tape.put(c);
        tape.put(d);
        tape.put(e);
        return tape.length;
    }

    public int end(int n) {
        if (!within(n, tape.length)) {
            return NONE;
        }
        tape.length = n;
        return n;
    }

    public int law() {
        if (lawCount >= MOST_LAWS) {
            return NONE;
        }
        int fault = tape.readAs(laws[lawCount]);
        tape.length = 0;
        return fault != 0 ? -2 - fault : lawCount++;
    }

    // ---- what is told of them

    public int of(int person, int what) {
        if (!town.isPerson(person)) {
            return NOT_THERE;
        }
        switch (what) {
            case 0: return town.coin[person];
            case 1: return has(town.living, person) ? 1 : 0;
            case 2: return town.heir[person];
            case 3: return town.ownedBy(person);
            case 4: return Integer.bitCount(town.foes[person]);
            case 5: return town.contentOf(person);
            case 6: return town.matesOf(person);
            default: return NOT_THERE;
        }
    }

    public int two(int one, int other, int what) {
        if (!town.areTwo(one, other)) {
            return NOT_THERE;
        }
        switch (what) {
            case 0: return town.liking[one * MOST_PEOPLE + other];
            case 1: return town.atOdds(one, other) ? 1 : 0;
            case 2: return town.sharedBy(one, other);
            case 3: return town.given[one * MOST_PEOPLE + other];
            case 4: return Integer.bitCount(strife.needing(town, one, other));
            default: return NOT_THERE;
        }
    }

    public int things(int thing, int what) {
        if (!town.isThing(thing)) {
            return NONE;
        }
        switch (what) {
            case 0: return town.owner[2 * thing];
            case 1: return town.owner[2 * thing + 1];
            case 2: return town.use[thing];
            default: return NONE;
        }
    }

    public int works(int work, int what) {
        if (!town.isWork(work)) {
            return NONE;
        }
        switch (what) {
            case 0: return town.asker[work];
            case 1: return town.kit[work];
            case 2: return town.worth[work];
            case 3: return town.day[work];
            case 4: return has(town.done, work) ? 1 : 0;
            default: return NONE;
        }
    }

    // ---- nods, and WORKS done

    public int nod(int law, int work, int thing, int owner) {
        if (!isLaw(law) || !town.isInWork(thing, work)) {
            return NONE;
        }
        for (int half = 0; half < 2; half++) {
            if (town.owner[2 * thing + half] == owner) {
                return nods.nodOf(town, laws[law], work, thing, half);
            }
        }
        return NONE;
    }

    public int had(int law, int work, int thing) {
        if (!isLaw(law) || !town.isInWork(thing, work)) {
            return NONE;
        }
        return nods.hadFor(town, laws[law], work, thing);
    }

    public int can(int law, int work) {
        if (!isLaw(law) || !town.isWork(work)) {
            return NONE;
        }
        return nods.canBeDone(town, laws[law], work) ? 1 : 0;
    }

    public int bars(int law, int work) {
        if (!isLaw(law) || !town.isWork(work)) {
            return NONE;
        }
        return nods.whoBars(town, laws[law], work);
    }

    public int does(int law, int work) {
        if (!isLaw(law) || !town.isWork(work)) {
            return NONE;
        }
        if (!nods.canBeDone(town, laws[law], work)) {
            return CANT;
        }
        return nods.carryOut(town, work);
    }

    // ---- the ROW

    public int row(int work) {
        if (work == NONE) {
            town.rowSize = 0;
            return 0;
        }
        if (!town.isWork(work) || town.rowSize >= MOST_IN_ROW) {
            return CANT;
        }
        town.row[town.rowSize++] = work;
        return town.rowSize;
    }

    public int judged(int law, int what) {
        if (!isLaw(law)) {
            return CANT;
        }
        switch (what) {
            case 0:
                return playRow(laws[law]);
            case 1:
                playRow(laws[law]);
                return worthBefore;
            default:
                return NONE;
        }
    }

    public int then(int law, int person) {
        if (!isLaw(law) || !town.isPerson(person)) {
            return NONE;
        }
        playRow(laws[law]);
        return trial.coin[person];
    }

    /** Does the ROW in the trial town; answers the place of the first that can't be done there. */
    private int playRow(Law law) {
        trial.copyFrom(town);
        worthBefore = 0;
        for (int i = 0; i < trial.rowSize; i++) {
            int work = trial.row[i];
            if (!nods.canBeDone(trial, law, work)) {
                return i;
            }
            nods.carryOut(trial, work);
            worthBefore += trial.worth[work];
        }
        return NONE;
    }

    // ---- sets of WORKS

    public int chain(int law, int work) {
        if (!isLaw(law) || !town.isWork(work)) {
            return NONE;
        }
        return sets.leastChain(town, laws[law], work, nods);
    }

    public int all(int law, int what) {
        if (!isLaw(law) || !within(what, 1)) {
            return NONE;
        }
        int set = sets.greatestSet(town, laws[law], nods);
        return what == 0 ? set : town.worthOfSet(set);
    }

    public int worth(int people) {
        if (!isSet(people, town.people, 1, MOST_SHARERS)) {
            return NONE;
        }
        return sets.worthFor(town, people);
    }

    public int share(int people, int person, int part) {
        if (!isSet(people, town.people, 1, MOST_SHARERS) || !within(part, 1)) {
            return NONE;
        }
        if (!town.isPerson(person) || !has(people, person)) {
            return NONE;
        }
        return sets.shareOf(town, people, person, part == 0);
    }

    // ---- QUARRELS and halves

    public int stopped() {
        return strife.stoppedNow(town);
    }

    public int least() {
        return strife.fewestTwos(town);
    }

    public int lay(int things, int people, int k) {
        if (!isSet(things, town.things, 1, MOST_LAID) || !isSet(people, town.people, 2, MOST_LAID)) {
            return NONE;
        }
        if ((people & ~town.living) != 0 || k < -1 || k >= Integer.bitCount(things)) {
            return NONE;
        }
        return strife.layOut(town, things, people, k);
    }

    public boolean swap(int thing, int half, int other, int otherHalf) {
        if (!town.isThing(thing) || !town.isThing(other) || !within(half, 1) || !within(otherHalf, 1)) {
            return false;
        }
        int one = 2 * thing + half;
        int two = 2 * other + otherHalf;
        if (!halves.canChange(town, one, two)) {
            return false;
        }
        halves.change(town, one, two);
        return true;
    }

    public int trades() {
        return halves.tradeAll(town);
    }

    public int dies(int person) {
        if (!town.isAlive(person) || Integer.bitCount(town.living) < 3) {
            return NONE;
        }
        return halves.leave(town, person);
    }

    // ---- YEARS

    public int seed(int x) {
        if (x < 0) {
            return NONE;
        }
        int was = town.x;
        town.x = x;
        return was;
    }

    public int years(int law, int n) {
        if (!isLaw(law) || n < 1 || n > MOST_YEARS || town.year + n > MOST_YEAR) {
            return NONE;
        }
        calendar.pass(town, laws[law], n);
        return town.oddsCount();
    }

    public int runs(int law, int n, int years, int what) {
        if (!isLaw(law) || n < 1 || n > MOST_RUNS || !within(years, MOST_RUN_YEARS) || !within(what, 2)) {
            return NONE;
        }
        int together = 0;
        int working = 0;
        int most = 0;
        int x = town.x;
        for (int i = 0; i < n; i++) {
            trial.copyFrom(town);
            trial.x = x;
            calendar.pass(trial, laws[law], years);
            x = trial.x;
            int odds = trial.oddsCount();
            together += odds;
            most = Math.max(most, odds);
            if (what == 1 && nods.someCanBeDone(trial, laws[law])) {
                working++;
            }
        }
        return what == 0 ? together : what == 1 ? working : most;
    }

    public int towards(int what) {
        switch (what) {
            case 0: return strife.greatestGroup(town);
            case 1: return strife.closest(town, true);
            case 2: return strife.closest(town, false);
            default: return CANT;
        }
    }

    public int count(int what) {
        switch (what) {
            case 0: return town.people;
            case 1: return Integer.bitCount(town.living);
            case 2: return town.things;
            case 3: return town.works;
            case 4: return Integer.bitCount(town.done);
            case 5: return town.oddsCount();
            case 6: return lawCount;
            case 7: return town.rowSize;
            case 8: return town.year;
            case 9: return town.x;
            case 10: return tape.length;
            default: return NONE;
        }
    }

    // ---- IMAGES

    public int image(int k) {
        if (!within(k, MOST_IMAGES - 1)) {
            return NONE;
        }
        images[k].copyFrom(town);
        made[k] = true;
        return town.people;
    }

    public int back(int k) {
        if (!within(k, MOST_IMAGES - 1) || !made[k]) {
            return NONE;
        }
        town.copyFrom(images[k]);
        return town.people;
    }

    private boolean isLaw(int law) {
        return law >= 0 && law < lawCount;
    }

    private static boolean within(int n, int most) {
        return n >= 0 && n <= most;
    }

    private static boolean has(int set, int n) {
        return (set >> n & 1) != 0;
    }

    /** Whether a set as bits lies below bit 'count' and has at least 'least' and at most 'most' of them. */
    private static boolean isSet(int set, int count, int least, int most) {
        int size = Integer.bitCount(set);
        return set >>> count == 0 && size >= least && size <= most;
    }

    private static int held(long n, int least, int most) {
        return (int) Math.max(least, Math.min(most, n));
    }

    /** All that an IMAGE holds. */
    private static final class Town {
        int people = 0;
        int living = 0;
        final int[] coin = new int[MOST_PEOPLE];
        final int[] heir = new int[MOST_PEOPLE];
        final int[] foes = new int[MOST_PEOPLE];
        final int[] liking = new int[MOST_PEOPLE * MOST_PEOPLE];
        final int[] given = new int[MOST_PEOPLE * MOST_PEOPLE];
        int things = 0;
        final int[] owner = new int[2 * MOST_THINGS];
        final int[] use = new int[MOST_THINGS];
        int works = 0;
        int done = 0;
        final int[] asker = new int[MOST_WORKS];
        final int[] kit = new int[MOST_WORKS];
        final int[] worth = new int[MOST_WORKS];
        final int[] day = new int[MOST_WORKS];
        int rowSize = 0;
        final int[] row = new int[MOST_IN_ROW];
        int year = 0;
        int x = 0;

        void copyFrom(Town from) {
            people = from.people;
            living = from.living;
            copyAll(from.coin, coin);
            copyAll(from.heir, heir);
            copyAll(from.foes, foes);
            copyAll(from.liking, liking);
            copyAll(from.given, given);
            things = from.things;
            copyAll(from.owner, owner);
            copyAll(from.use, use);
            works = from.works;
            done = from.done;
            copyAll(from.asker, asker);
            copyAll(from.kit, kit);
            copyAll(from.worth, worth);
            copyAll(from.day, day);
            rowSize = from.rowSize;
            copyAll(from.row, row);
            year = from.year;
            x = from.x;
        }

        private static void copyAll(int[] from, int[] to) {
            System.arraycopy(from, 0, to, 0, Math.min(from.length, to.length));
        }

        boolean isPerson(int n) {
            return n >= 0 && n < people;
        }

        boolean isAlive(int n) {
            return n >= 0 && n < people && has(living, n);
        }

        boolean areTwo(int one, int other) {
            return one != other && isPerson(one) && isPerson(other);
        }

        boolean isThing(int n) {
            return n >= 0 && n < things;
        }

        boolean isWork(int n) {
            return n >= 0 && n < works;
        }

        boolean isInWork(int thing, int work) {
            return isWork(work) && isThing(thing) && has(kit[work], thing);
        }

        boolean atOdds(int one, int other) {
            return has(foes[one], other);
        }

        void setOdds(int one, int other, boolean is) {
            if (is) {
                foes[one] |= 1 << other;
                foes[other] |= 1 << one;
            } else {
                foes[one] &= ~(1 << other);
                foes[other] &= ~(1 << one);
            }
        }

        int oddsCount() {
            int twice = 0;
            for (int p = 0; p < people; p++) {
                twice += Integer.bitCount(foes[p]);
            }
            return twice / 2;
        }

        int ownedBy(int person) {
            int sum = 0;
            for (int i = 0; i < 2 * things; i++) {
                if (owner[i] == person) {
                    sum++;
                }
            }
            return sum;
        }

        int sharedBy(int one, int other) {
            int sum = 0;
            for (int i = 0; i < 2 * things; i++) {
                if (owner[i] == one && owner[i ^ 1] == other) {
                    sum++;
                }
            }
            return sum;
        }

        int contentOf(int person) {
            int sum = 0;
            for (int i = 0; i < 2 * things; i++) {
                if (owner[i] == person) {
                    sum += liking[person * MOST_PEOPLE + owner[i ^ 1]];
                }
            }
            return sum;
        }

        int matesOf(int person) {
            int mates = 0;
            for (int i = 0; i < 2 * things; i++) {
                if (owner[i] == person) {
                    mates |= 1 << owner[i ^ 1];
                }
            }
            return Integer.bitCount(mates);
        }

        boolean clash(int work, int other) {
            return work != other && day[work] == day[other] && (kit[work] & kit[other]) != 0;
        }

        /** Not DONE, the asker living, none of its THINGS taken on its DAY. */
        boolean isFree(int work) {
            if (has(done, work) || !has(living, asker[work])) {
                return false;
            }
            for (int other = 0; other < works; other++) {
                if (has(done, other) && clash(work, other)) {
                    return false;
                }
            }
            return true;
        }

        int worthOfSet(int set) {
            int sum = 0;
            for (int work = 0; work < works; work++) {
                if (has(set, work)) {
                    sum += worth[work];
                }
            }
            return sum;
        }
    }

    /** A LAW as code, operands ahead of what is done with them: of each CLAUSE the SUM, then the TEST. */
    private static final class Law {
        private int clauses = 0;
        private int size = 0;
        private final int[] code = new int[MOST_TAPE];
        private final int[] sorts = new int[MOST_CLAUSES];
        private final int[] sumFrom = new int[MOST_CLAUSES];
        private final int[] testFrom = new int[MOST_CLAUSES];
        private final int[] testTo = new int[MOST_CLAUSES];
        private final long[] stack = new long[MOST_COUNTED + 4];

        void clear() {
            clauses = 0;
            size = 0;
        }

        int codeSize() {
            return size;
        }

        void emit(int what) {
            if (size < code.length) {
                code[size++] = what;
            }
        }

        /** The CLAUSE whose code has just come: its SUM from 'sum' on, its TEST from 'test' to the end. */
        void addClause(int sort, int sum, int test) {
            if (clauses < MOST_CLAUSES) {
                sorts[clauses] = sort;
                sumFrom[clauses] = sum;
                testFrom[clauses] = test;
                testTo[clauses] = size;
                clauses++;
            }
        }

        long sumOf(int sort, long[] words) {
            for (int i = 0; i < clauses; i++) {
                if (sorts[i] == sort
                        && (testFrom[i] == testTo[i] || reckon(testFrom[i], testTo[i], words) != 0)) {
                    return reckon(sumFrom[i], testFrom[i], words);
                }
            }
            return sort == NODS ? 2 : 0;
        }

        private long reckon(int from, int to, long[] words) {
            int top = 0;
            for (int i = Math.max(0, from); i < to && i < code.length; i++) {
                int what = code[i];
                if (what >= -WORD_COUNT) {
                    if (top < stack.length) {
                        stack[top++] = what >= 0 ? what : words[-1 - what];
                    }
                } else if (what == NOT) {
                    if (top >= 1) {
                        stack[top - 1] = 1 - stack[top - 1];
                    }
                } else if (top >= 2) {
                    top--;
                    stack[top - 1] = apply(what, stack[top - 1], stack[top]);
                }
            }
            return top >= 1 ? stack[top - 1] : 0;
        }

        private static long apply(int what, long a, long b) {
            switch (what) {
                case ADD: return a + b;
                case SUBTRACT: return a - b;
                case MULTIPLY: return a * b;
                case DIVIDE: return b == 0 ? 0 : a / b;
                case LESS: return a < b ? 1 : 0;
                case AT_MOST: return a <= b ? 1 : 0;
                case SAME: return a == b ? 1 : 0;
                case AT_LEAST: return a >= b ? 1 : 0;
                case MORE: return a > b ? 1 : 0;
                case AND: return a & b;
                case OR: return a | b;
                default: return 0;
            }
        }
    }

    /** The TAPE; it is read as a LAW left to right, up to the first FAULT. */
    private static final class Tape {
        private static final int END = -1;

        private final int[] text = new int[MOST_TAPE];
        int length = 0;
        private int at = 0;
        private int behind = 0;
        private int counted = 0;
        private int fault = 0;
        private Law law = null;

        void put(int number) {
            for (int shift = 24; shift >= 0; shift -= 8) {
                if (length < text.length) {
                    text[length++] = number >>> shift & 255;
                }
            }
        }

        /** The FAULT, or 0 if there is none. */
        int readAs(Law into) {
            at = 0;
            counted = 0;
            fault = 0;
            law = into;
            law.clear();
            for (int before = 0; before <= MOST_CLAUSES; before++) {
                if (!readClause(before) || next() == END) {
                    return fault;
                }
                if (next() != ';') {
                    fail(CANT_STAND);
                    return fault;
                }
                at++;
            }
            return fault;
        }

        private boolean readClause(int before) {
            next();
            int sort = wordIn(SORTS);
            if (sort < 0) {
                return fail(CANT_STAND);
            }
            if (before >= MOST_CLAUSES) {
                return fail(THIRTEENTH);
            }
            at = behind;
            int sum = law.codeSize();
            if (!readSum()) {
                return false;
            }
            int test = law.codeSize();
            next();
            if (wordIn("if") == 0) {
                at = behind;
                if (!readTest(0)) {
                    return false;
                }
            }
            law.addClause(sort, sum, test);
            return true;
        }

        private boolean readTest(int depth) {
            if (!readFact(depth)) {
                return false;
            }
            boolean waiting = false;
            for (int i = 0; i < MOST_TAPE; i++) {
                next();
                int join = wordIn("and or");
                if (join < 0) {
                    break;
                }
                at = behind;
                boolean or = join == 1;
                if (or && waiting) {
                    law.emit(OR);
                }
                waiting = waiting || or;
                if (!readFact(depth)) {
                    return false;
                }
                if (!or) {
                    law.emit(AND);
                }
            }
            if (waiting) {
                law.emit(OR);
            }
            return true;
        }

        private boolean readFact(int depth) {
            int first = next();
            boolean not = wordIn("not") == 0;
            if (not || first == '[') {
                return readDeeper(depth, not);
            }
            if (!readSum()) {
                return false;
            }
            int sign = signHere();
            if (sign == 0) {
                return fail(CANT_STAND);
            }
            if (counted >= MOST_COUNTED) {
                return fail(TOO_MANY);
            }
            counted++;
            at = behind;
            if (!readSum()) {
                return false;
            }
            law.emit(sign);
            return true;
        }

        private boolean readDeeper(int depth, boolean not) {
            if (depth >= MOST_DEEP) {
                return fail(TOO_DEEP);
            }
            if (not) {
                at = behind;
                if (!readFact(depth + 1)) {
                    return false;
                }
                law.emit(NOT);
                return true;
            }
            at++;
            if (!readTest(depth + 1)) {
                return false;
            }
            if (next() != ']') {
                return fail(CANT_STAND);
            }
            at++;
            return true;
        }

        /** Holds a + or - back until the TERM behind it is whole. */
        private boolean readSum() {
            if (!readValue()) {
                return false;
            }
            int waiting = 0;
            for (int i = 0; i < MOST_TAPE; i++) {
                int sign = next();
                boolean adds = sign == '+' || sign == '-';
                if (!adds && sign != '*' && sign != '/') {
                    break;
                }
                at++;
                if (adds && waiting != 0) {
                    law.emit(waiting);
                }
                if (!readValue()) {
                    return false;
                }
                if (adds) {
                    waiting = -sign;
                } else {
                    law.emit(-sign);
                }
            }
            if (waiting != 0) {
                law.emit(waiting);
            }
            return true;
        }

        private boolean readValue() {
            int first = next();
            int value;
            if (first >= '0' && first <= '9') {
                value = numberHere();
                if (value < 0) {
                    return fail(TOO_LONG);
                }
            } else {
                int word = wordIn(WORDS);
                if (word < 0) {
                    return fail(CANT_STAND);
                }
                value = -1 - word;
            }
            if (counted >= MOST_COUNTED) {
                return fail(TOO_MANY);
            }
            counted++;
            at = behind;
            law.emit(value);
            return true;
        }

        /** Goes over blanks; the byte there, or END. */
        private int next() {
            while (at < length && text[at] == ' ') {
                at++;
            }
            return at < length ? text[at] : END;
        }

        /** The number that the word here has in a list of words, -1 without; 'behind' is its end. */
        private int wordIn(String list) {
            behind = at;
            while (behind < length && text[behind] >= 'a' && text[behind] <= 'z') {
                behind++;
            }
            int number = 0;
            int from = 0;
            boolean fits = behind > at;
            for (int i = 0; i <= list.length(); i++) {
                char c = i < list.length() ? list.charAt(i) : ' ';
                int place = at + i - from;
                if (c != ' ') {
                    fits = fits && place < behind && text[place] == c;
                } else if (fits && place == behind) {
                    return number;
                } else {
                    number++;
                    from = i + 1;
                    fits = behind > at;
                }
            }
            return -1;
        }

        /** The NUMBER here, -1 if it has too many digits; 'behind' is its end. */
        private int numberHere() {
            int number = 0;
            behind = at;
            while (behind < length && text[behind] >= '0' && text[behind] <= '9') {
                if (behind - at < MOST_DIGITS) {
                    number = 10 * number + text[behind] - '0';
                }
                behind++;
            }
            return behind - at > MOST_DIGITS ? -1 : number;
        }

        /** The SIGN here, 0 without; 'behind' is its end. */
        private int signHere() {
            int first = next();
            if (first != '<' && first != '=' && first != '>') {
                return 0;
            }
            behind = at + 1;
            if (first != '=' && behind < length && text[behind] == '=') {
                behind++;
                return first == '<' ? AT_MOST : AT_LEAST;
            }
            return -first;
        }

        private boolean fail(int sort) {
            fault = 1 + 8 * at + sort;
            return false;
        }
    }

    /** How owners NOD, and WORKS that are done by that. */
    private static final class Nods {
        private final long[] words = new long[WORD_COUNT];
        private final int[] paid = new int[MOST_PEOPLE];
        private final int[] nodded = new int[MOST_PEOPLE];
        private int together = 0;
        private int firstPrice = CANT;
        private int secondPrice = CANT;

        /** The price, 0 for nothing, CANT if the owner does not NOD. */
        int nodOf(Town town, Law law, int work, int thing, int half) {
            int owner = town.owner[2 * thing + half];
            int asker = town.asker[work];
            if (owner == asker) {
                return 0;
            }
            if (town.atOdds(owner, asker)) {
                return CANT;
            }
            tellWork(town, work, thing);
            tellOwner(town, owner, town.owner[2 * thing + 1 - half], asker);
            if (law.sumOf(YES, words) > 0) {
                return 0;
            }
            int price = held(law.sumOf(PRICE, words), 0, MOST_PRICE);
            return price > 0 ? price : CANT;
        }

        int needed(Town town, Law law, int work, int thing) {
            Arrays.fill(words, 0);
            tellWork(town, work, thing);
            return held(law.sumOf(NODS, words), 1, 2);
        }

        private void tellWork(Town town, int work, int thing) {
            words[WORTH] = town.worth[work];
            words[USE] = town.use[thing];
            words[COIN] = town.coin[town.asker[work]];
            words[DAY] = town.day[work];
            words[YEAR] = town.year;
        }

        private void tellOwner(Town town, int owner, int mate, int asker) {
            words[LIKE] = town.liking[owner * MOST_PEOPLE + asker];
            words[MATE] = town.liking[owner * MOST_PEOPLE + mate];
            words[OWNS] = town.ownedBy(owner);
            words[GIVEN] = town.given[owner * MOST_PEOPLE + asker] - town.given[asker * MOST_PEOPLE + owner];
            words[SHARED] = town.sharedBy(owner, asker);
            words[NEAR] = Integer.bitCount(town.foes[owner]);
        }

        /** All prices of a THING, or CANT; firstPrice and secondPrice keep the nods by which it is HAD. */
        int hadFor(Town town, Law law, int work, int thing) {
            firstPrice = nodOf(town, law, work, thing, 0);
            secondPrice = nodOf(town, law, work, thing, 1);
            boolean both = firstPrice >= 0 && secondPrice >= 0;
            if (needed(town, law, work, thing) == 2) {
                boolean agree = both && !town.atOdds(town.owner[2 * thing], town.owner[2 * thing + 1]);
                return agree ? firstPrice + secondPrice : CANT;
            }
            if (both && firstPrice <= secondPrice) {
                secondPrice = CANT;
            } else if (both) {
                firstPrice = CANT;
            }
            return Math.max(firstPrice, secondPrice);
        }

        boolean someCanBeDone(Town town, Law law) {
            for (int work = 0; work < town.works; work++) {
                if (canBeDone(town, law, work)) {
                    return true;
                }
            }
            return false;
        }

        /** Keeps all prices and nods for carryOut. */
        boolean canBeDone(Town town, Law law, int work) {
            if (!town.isFree(work)) {
                return false;
            }
            together = 0;
            Arrays.fill(paid, 0);
            Arrays.fill(nodded, 0);
            for (int thing = 0; thing < town.things; thing++) {
                if (has(town.kit[work], thing)) {
                    int price = hadFor(town, law, work, thing);
                    if (price < 0) {
                        return false;
                    }
                    together += price;
                    keepNod(town.owner[2 * thing], firstPrice);
                    keepNod(town.owner[2 * thing + 1], secondPrice);
                }
            }
            return together <= town.coin[town.asker[work]];
        }

        private void keepNod(int owner, int price) {
            if (price >= 0) {
                paid[owner] += price;
                nodded[owner]++;
            }
        }

        /** Does the WORK that canBeDone has just found to be one that can be done; all its prices. */
        int carryOut(Town town, int work) {
            int asker = town.asker[work];
            for (int person = 0; person < town.people; person++) {
                if (person != asker) {
                    town.coin[person] = Math.min(MOST_COIN, town.coin[person] + paid[person]);
                    town.given[person * MOST_PEOPLE + asker] += nodded[person];
                }
            }
            town.coin[asker] = Math.min(MOST_COIN, town.coin[asker] - together + town.worth[work]);
            town.done |= 1 << work;
            return together;
        }

        int whoBars(Town town, Law law, int work) {
            for (int thing = 0; thing < town.things; thing++) {
                if (has(town.kit[work], thing) && hadFor(town, law, work, thing) < 0) {
                    boolean secondAlone = firstPrice >= 0 && secondPrice < 0;
                    return town.owner[secondAlone ? 2 * thing + 1 : 2 * thing];
                }
            }
            return CANT;
        }
    }

    /** Sets of WORKS: CHAIN, ALL, v and SHARE. */
    private static final class Sets {
        /** Above the bits of any set of WORKS, and above twelve counts times that. */
        private static final int ONE_WORK = 1 << 13;
        private static final int ONE_COIN = 1 << 20;

        private final int[] clashing = new int[MOST_WORKS];
        private final int[] mustAsk = new int[MOST_WORKS];
        private final int[] someAsk = new int[MOST_WORKS * MOST_THINGS_OF_WORK];
        private final int[] circle = new int[MOST_WORKS];
        private final long[] value = new long[MOST_WORKS];

        private void findClashes(Town town) {
            for (int work = 0; work < town.works; work++) {
                clashing[work] = 0;
                for (int other = 0; other < town.works; other++) {
                    if (town.clash(work, other)) {
                        clashing[work] |= 1 << other;
                    }
                }
            }
        }

        int leastChain(Town town, Law law, int work, Nods nods) {
            findClashes(town);
            int fit = 0;
            for (int one = 0; one < town.works; one++) {
                if (town.isFree(one) && findAskers(town, law, one, nods)) {
                    fit |= 1 << one;
                }
            }
            int least = CANT;
            int fewest = MOST_WORKS + 1;
            for (int set = 1 << work; set < 1 << town.works; set++) {
                if ((set & ~fit) == 0 && has(set, work) && Integer.bitCount(set) < fewest && isChain(town, set)) {
                    least = set;
                    fewest = Integer.bitCount(set);
                }
            }
            return least;
        }

        /**
         * Finds who must be askers in the set of a CHAIN for a WORK to be in it: all of mustAsk, and of
         * each someAsk that is not empty one; false if no set would do.
         */
        private boolean findAskers(Town town, Law law, int work, Nods nods) {
            mustAsk[work] = 0;
            int place = MOST_THINGS_OF_WORK * work;
            Arrays.fill(someAsk, place, place + MOST_THINGS_OF_WORK, 0);
            for (int thing = 0; thing < town.things; thing++) {
                if (!has(town.kit[work], thing)) {
                    continue;
                }
                int unwilling = 0;
                int never = 0;
                for (int half = 0; half < 2; half++) {
                    int owner = town.owner[2 * thing + half];
                    if (town.atOdds(owner, town.asker[work])) {
                        never++;
                    } else if (nods.nodOf(town, law, work, thing, half) < 0) {
                        unwilling |= 1 << owner;
                    }
                }
                if (nods.needed(town, law, work, thing) == 2) {
                    if (never > 0 || town.atOdds(town.owner[2 * thing], town.owner[2 * thing + 1])) {
                        return false;
                    }
                    mustAsk[work] |= unwilling;
                } else if (never == 2) {
                    return false;
                } else if (never + Integer.bitCount(unwilling) == 2) {
                    someAsk[place] = unwilling;
                    place++;
                }
            }
            return true;
        }

        private boolean isChain(Town town, int set) {
            int askers = 0;
            for (int work = 0; work < town.works; work++) {
                if (has(set, work)) {
                    askers |= 1 << town.asker[work];
                }
            }
            for (int work = 0; work < town.works; work++) {
                if (has(set, work) && !((clashing[work] & set) == 0 && isAnswered(work, askers))) {
                    return false;
                }
            }
            return true;
        }

        private boolean isAnswered(int work, int askers) {
            if ((mustAsk[work] & ~askers) != 0) {
                return false;
            }
            for (int i = MOST_THINGS_OF_WORK * work; i < MOST_THINGS_OF_WORK * (work + 1); i++) {
                if (someAsk[i] != 0 && (someAsk[i] & askers) == 0) {
                    return false;
                }
            }
            return true;
        }

        /** ALL: worth, count and set weigh together in one number, so that the greatest sum is the one. */
        int greatestSet(Town town, Law law, Nods nods) {
            findClashes(town);
            int open = 0;
            for (int work = 0; work < town.works; work++) {
                value[work] = (long) town.worth[work] * ONE_COIN - ONE_WORK - (1 << work);
                if (town.worth[work] > 0 && nods.canBeDone(town, law, work)) {
                    open |= 1 << work;
                }
            }
            return (int) (-best(open, value, clashing, 0) & ONE_WORK - 1);
        }

        /** The greatest value of WORKS of a set that don't clash; no value is below 0. */
        private static long best(int set, long[] value, int[] clashing, int depth) {
            if (set == 0 || depth > MOST_WORKS) {
                return 0;
            }
            int work = Math.min(Integer.numberOfTrailingZeros(set), MOST_WORKS - 1);
            int rest = set & set - 1;
            long with = value[work] + best(rest & ~clashing[work], value, clashing, depth + 1);
            if ((rest & clashing[work]) == 0) {
                return with;
            }
            return Math.max(with, best(rest, value, clashing, depth + 1));
        }

        int worthFor(Town town, int people) {
            gather(town);
            return worthAmong(town, people);
        }

        /** Finds for each WORK the PEOPLE it hangs on, and its worth. */
        private void gather(Town town) {
            findClashes(town);
            for (int work = 0; work < town.works; work++) {
                value[work] = town.worth[work];
                circle[work] = 1 << town.asker[work];
                for (int i = 0; i < 2 * town.things; i++) {
                    if (has(town.kit[work], i / 2)) {
                        circle[work] |= 1 << town.owner[i];
                    }
                }
            }
        }

        private int worthAmong(Town town, int people) {
            int open = 0;
            for (int work = 0; work < town.works; work++) {
                if (!has(town.done, work) && (circle[work] & ~people) == 0) {
                    open |= 1 << work;
                }
            }
            return (int) best(open, value, clashing, 0);
        }

        /** SHARE above the line, or below it. */
        int shareOf(Town town, int people, int person, boolean above) {
            gather(town);
            int count = Integer.bitCount(people);
            int others = people & ~(1 << person);
            int sum = 0;
            for (int some = 0; some <= others; some++) {
                if ((some & ~others) == 0) {
                    int more = worthAmong(town, some | 1 << person) - worthAmong(town, some);
                    int ahead = Integer.bitCount(some);
                    sum += more * orders(ahead) * orders(count - 1 - ahead);
                }
            }
            int line = orders(count);
            int common = greatestDivisor(sum, line);
            if (common == 0) {
                return NONE;
            }
            return above ? sum / common : line / common;
        }

        /** In how many orders so many could come. */
        private static int orders(int n) {
            int product = 1;
            for (int i = 2; i <= n; i++) {
                product *= i;
            }
            return product;
        }

        private static int greatestDivisor(int a, int b) {
            int divisor = a;
            int rest = b;
            for (int i = 0; i < 64 && rest > 0; i++) {
                int next = divisor % rest;
                divisor = rest;
                rest = next;
            }
            return divisor;
        }
    }

    /** What QUARRELS stop: STOPS, STOPPED, LEAST, LAY; and who hangs together. */
    private static final class Strife {
        private static final int UNREACHED = 99;
        private static final int MOST_TWOS = 66;
        private static final int MOST_PAIRS_LAID = 6;

        private final int[] stopping = new int[MOST_TWOS];
        private final byte[] steps = new byte[1 << MOST_WORKS];
        private final int[] pairs = new int[MOST_PAIRS_LAID];
        private final int[] stoppedBy = new int[MOST_LAID * MOST_PAIRS_LAID];

        /** The WORKS, not DONE, that NEED both, as a set. */
        int needing(Town town, int one, int other) {
            int set = 0;
            int both = 1 << one | 1 << other;
            int owned = ownedTogether(town, one, other);
            for (int work = 0; work < town.works; work++) {
                boolean asks = has(both, town.asker[work]);
                int touching = asks ? ownedTogether(town, one + other - town.asker[work], NONE) : owned;
                if (!has(town.done, work) && (town.kit[work] & touching) != 0) {
                    set |= 1 << work;
                }
            }
            return set;
        }

        /** The THINGS of two as a set; of one, if the other is NONE. */
        private static int ownedTogether(Town town, int one, int other) {
            int set = 0;
            for (int i = 0; i < 2 * town.things; i++) {
                if (town.owner[i] == one && (other == NONE || town.owner[i ^ 1] == other)) {
                    set |= 1 << i / 2;
                }
            }
            return set;
        }

        int stoppedNow(Town town) {
            return Integer.bitCount(stoppedWithout(town, 0));
        }

        /** STOPPED as a set, by all THINGS but those of a set. */
        private static int stoppedWithout(Town town, int things) {
            int set = 0;
            for (int thing = 0; thing < town.things; thing++) {
                if (!has(things, thing)) {
                    set |= stoppedThrough(town, thing, town.owner[2 * thing], town.owner[2 * thing + 1]);
                }
            }
            return set;
        }

        /** The WORKS, not DONE, that would be STOPPED through a THING if two owned it. */
        private static int stoppedThrough(Town town, int thing, int one, int other) {
            int set = 0;
            int hostile = town.foes[one] | town.foes[other];
            boolean apart = town.atOdds(one, other);
            for (int work = 0; work < town.works; work++) {
                if (has(town.kit[work], thing) && (apart || has(hostile, town.asker[work]))) {
                    set |= 1 << work;
                }
            }
            return set & ~town.done;
        }

        /** LEAST, by the fewest steps from no WORK covered to all, always covering the first that is not. */
        int fewestTwos(Town town) {
            int twos = findTwos(town);
            int full = (1 << town.works) - 1;
            Arrays.fill(steps, 0, full + 1, (byte) UNREACHED);
            steps[town.done & full] = 0;
            for (int covered = 0; covered < full; covered++) {
                if (steps[covered] < UNREACHED) {
                    int first = ~covered & covered + 1;
                    for (int i = 0; i < twos; i++) {
                        int then = covered | stopping[i] & full;
                        if ((stopping[i] & first) != 0 && steps[covered] + 1 < steps[then]) {
                            steps[then] = (byte) (steps[covered] + 1);
                        }
                    }
                }
            }
            return steps[full];
        }

        /** Fills 'stopping' with what twos stop, leaving out what an earlier two stops as well. */
        private int findTwos(Town town) {
            int twos = 0;
            for (int one = 0; one < town.people; one++) {
                for (int other = one + 1; other < town.people; other++) {
                    int set = needing(town, one, other);
                    boolean spare = set == 0;
                    for (int i = 0; i < twos && !spare; i++) {
                        spare = (set & ~stopping[i]) == 0;
                    }
                    if (!spare && twos < stopping.length) {
                        stopping[twos++] = set;
                    }
                }
            }
            return twos;
        }

        /** LAY: how many are STOPPED for k -1, else the owners of the THING at place k. */
        int layOut(Town town, int things, int people, int k) {
            int pairCount = findPairs(town, people);
            int count = 0;
            int ways = 1;
            for (int thing = 0; thing < town.things; thing++) {
                if (has(things, thing) && count < MOST_LAID) {
                    for (int i = 0; i < pairCount; i++) {
                        stoppedBy[MOST_PAIRS_LAID * count + i] =
                                stoppedThrough(town, thing, pairs[i] / 16, pairs[i] % 16);
                    }
                    count++;
                    ways *= pairCount;
                }
            }
            int way = firstWay(stoppedWithout(town, things), count, ways, pairCount);
            if (k < 0) {
                return Integer.bitCount(stoppedWithout(town, things) | stoppedInWay(way, count, pairCount));
            }
            return pairs[pairOf(way, count - 1 - k, pairCount)];
        }

        /** Fills 'pairs' with all twos of a set, the lesser * 16 + the other. */
        private int findPairs(Town town, int people) {
            int count = 0;
            for (int one = 0; one < town.people; one++) {
                for (int other = one + 1; other < town.people; other++) {
                    if (has(people, one) && has(people, other) && count < MOST_PAIRS_LAID) {
                        pairs[count++] = 16 * one + other;
                    }
                }
            }
            return count;
        }

        private int firstWay(int stopped, int count, int ways, int pairCount) {
            int best = 0;
            int fewest = MOST_WORKS + 1;
            for (int way = 0; way < ways; way++) {
                int now = Integer.bitCount(stopped | stoppedInWay(way, count, pairCount));
                if (now < fewest) {
                    fewest = now;
                    best = way;
                }
            }
            return best;
        }

        /** A way is a number with a digit for each THING, the first THING's the highest. */
        private int stoppedInWay(int way, int count, int pairCount) {
            int set = 0;
            int rest = way;
            for (int place = count - 1; place >= 0 && pairCount > 0; place--) {
                set |= stoppedBy[MOST_PAIRS_LAID * place + rest % pairCount];
                rest /= pairCount;
            }
            return set;
        }

        private static int pairOf(int way, int lower, int pairCount) {
            int rest = way;
            for (int i = 0; i < lower && pairCount > 0; i++) {
                rest /= pairCount;
            }
            return pairCount > 0 ? rest % pairCount : 0;
        }

        int greatestGroup(Town town) {
            int most = 0;
            for (int person = 0; person < town.people; person++) {
                int group = 1 << person;
                for (int i = 0; i < town.people; i++) {
                    group |= foesOf(town, group);
                }
                most = Math.max(most, Integer.bitCount(group));
            }
            return most;
        }

        private static int foesOf(Town town, int group) {
            int foes = 0;
            for (int person = 0; person < town.people; person++) {
                if (has(group, person)) {
                    foes |= town.foes[person];
                }
            }
            return foes;
        }

        /** Of the CLOSEST the lesser one, or the other one. */
        int closest(Town town, boolean lesser) {
            int most = 0;
            int found = NONE;
            for (int one = 0; one < town.people; one++) {
                for (int other = one + 1; other < town.people; other++) {
                    int shared = town.sharedBy(one, other);
                    if (shared > most) {
                        most = shared;
                        found = lesser ? one : other;
                    }
                }
            }
            return found;
        }
    }

    /** Halves that go from one to another: SWAPS, TRADES, deaths. A half is 2 * its THING, 1 more if second. */
    private static final class Halves {
        private final int[] line = new int[MOST_PEOPLE];
        private int lineSize = 0;

        boolean canChange(Town town, int half, int other) {
            int one = town.owner[half];
            int two = town.owner[other];
            return half / 2 != other / 2 && one != two && town.owner[half ^ 1] != two && town.owner[other ^ 1] != one;
        }

        void change(Town town, int half, int other) {
            int one = town.owner[half];
            town.owner[half] = town.owner[other];
            town.owner[other] = one;
        }

        int tradeAll(Town town) {
            int trades = 0;
            while (trades < MOST_TRADES && tradeOnce(town)) {
                trades++;
            }
            return trades;
        }

        private boolean tradeOnce(Town town) {
            for (int half = 0; half < 2 * town.things; half++) {
                for (int other = half / 2 * 2 + 2; other < 2 * town.things; other++) {
                    if (bothGain(town, half, other) && canChange(town, half, other)) {
                        change(town, half, other);
                        return true;
                    }
                }
            }
            return false;
        }

        private static boolean bothGain(Town town, int half, int other) {
            int one = MOST_PEOPLE * town.owner[half];
            int two = MOST_PEOPLE * town.owner[other];
            int mate = town.owner[half ^ 1];
            int otherMate = town.owner[other ^ 1];
            return town.liking[one + otherMate] > town.liking[one + mate]
                    && town.liking[two + mate] > town.liking[two + otherMate];
        }

        /** One DIES: how many halves went to others. */
        int leave(Town town, int person) {
            town.living &= ~(1 << person);
            findLine(town, person);
            int taker = firstInLine(town, NONE);
            if (taker == NONE) {
                taker = mostLiked(town, NONE);
            }
            if (taker != NONE) {
                town.coin[taker] = Math.min(MOST_COIN, town.coin[taker] + town.coin[person]);
            }
            town.coin[person] = 0;
            for (int other = 0; other < town.people; other++) {
                town.setOdds(person, other, false);
            }
            return handOn(town, person);
        }

        /** The HEIR, that one's HEIR and so on, each once. */
        private void findLine(Town town, int person) {
            lineSize = 0;
            int asked = 0;
            int next = town.heir[person];
            while (lineSize < MOST_PEOPLE && town.isPerson(next) && !has(asked, next)) {
                line[lineSize++] = next;
                asked |= 1 << next;
                next = town.heir[next];
            }
        }

        private int firstInLine(Town town, int not) {
            for (int i = 0; i < lineSize; i++) {
                if (has(town.living, line[i]) && line[i] != not) {
                    return line[i];
                }
            }
            return NONE;
        }

        /** The living one whom 'by' LIKES most, not himself; the least who lives if 'by' is NONE. */
        private static int mostLiked(Town town, int by) {
            int found = NONE;
            int most = -MOST_LIKE - 1;
            for (int person = 0; person < town.people; person++) {
                int liked = by == NONE ? 0 : town.liking[by * MOST_PEOPLE + person];
                if (has(town.living, person) && person != by && liked > most) {
                    most = liked;
                    found = person;
                }
            }
            return found;
        }

        private int handOn(Town town, int person) {
            int halves = 0;
            for (int half = 0; half < 2 * town.things; half++) {
                if (town.owner[half] == person) {
                    int mate = town.owner[half ^ 1];
                    int taker = firstInLine(town, mate);
                    if (taker == NONE) {
                        taker = mostLiked(town, mate);
                    }
                    if (taker != NONE) {
                        town.owner[half] = taker;
                        halves++;
                    }
                }
            }
            return halves;
        }
    }

    /** YEARS, in which people fall out and make peace by DRAWS. */
    private static final class Years {
        private final long[] words = new long[WORD_COUNT];
        private final int[] owned = new int[MOST_PEOPLE];
        private final int[] shared = new int[MOST_PEOPLE * MOST_PEOPLE];

        void pass(Town town, Law law, int years) {
            measure(town);
            for (int i = 0; i < years; i++) {
                passOne(town, law);
            }
        }

        /** No half changes hands in a YEAR, so these are counted once. */
        private void measure(Town town) {
            Arrays.fill(owned, 0);
            Arrays.fill(shared, 0);
            for (int i = 0; i < 2 * town.things; i++) {
                owned[town.owner[i]]++;
                shared[MOST_PEOPLE * town.owner[i] + town.owner[i ^ 1]]++;
            }
        }

        private void passOne(Town town, Law law) {
            for (int one = 0; one < town.people; one++) {
                for (int other = one + 1; other < town.people; other++) {
                    if (has(town.living, one) && has(town.living, other)) {
                        meet(town, law, one, other);
                    }
                }
            }
            town.year++;
        }

        private void meet(Town town, Law law, int one, int other) {
            boolean apart = town.atOdds(one, other);
            if (!apart && shared[MOST_PEOPLE * one + other] == 0) {
                return;
            }
            tellTwo(town, one, other);
            int bound = held(law.sumOf(apart ? PEACE : QUARREL, words), 0, SURE);
            if (draw(town) < bound) {
                town.setOdds(one, other, !apart);
            }
        }

        private void tellTwo(Town town, int one, int other) {
            int there = MOST_PEOPLE * one + other;
            int andBack = MOST_PEOPLE * other + one;
            words[LIKE] = town.liking[there] + town.liking[andBack];
            words[OWNS] = owned[one] + owned[other];
            words[GIVEN] = town.given[there] + town.given[andBack];
            words[SHARED] = shared[there];
            words[NEAR] = Integer.bitCount(town.foes[one]) + Integer.bitCount(town.foes[other]);
            words[YEAR] = town.year;
        }

        private static int draw(Town town) {
            town.x = (int) (town.x * 1103515245L + 12345L & 2147483647L);
            return town.x / 65536 % 1000;
        }
    }
}
