import java.util.ArrayList;
import java.util.Arrays;
import java.util.List;

/**
 * All that shows the state. It is asked of towns that are made anew, some questions of each, so that no object
 * is used for more than its 512 calls.
 */
final class Shown {
    private static final int ASKED_OF_ONE = 150;
    private static final int NO_IMAGE = -1;

    interface Maker {
        OwnedByTwos make();
    }

    interface Call {
        long on(OwnedByTwos town);
    }

    private Shown() { }

    /** The call answers as due, and all that shows the state answers as it does without that call. */
    static void nothingHappens(String name, Maker maker, Call call, long want) {
        Check.due(name, call.on(maker.make()), want);
        Check.due(name + ": the place of the first answer that is not as before",
                Arrays.mismatch(all(maker, call), all(maker, t -> 0)), -1);
    }

    /** Below the least and above the most the call is refused and nothing happens; these two themselves are taken. */
    static void range(String name, Maker maker, Ranged call, int least, int most, long refused) {
        for (int n : new int[] {least - 1, most + 1, Integer.MIN_VALUE, Integer.MAX_VALUE}) {
            if (n < least || n > most) {
                nothingHappens(name + " refused: " + n, maker, t -> call.on(t, n), refused);
            }
        }
        Check.due(name + " taken: " + least, call.on(maker.make(), least) != refused, true);
        Check.due(name + " taken: " + most, call.on(maker.make(), most) != refused, true);
    }

    interface Ranged {
        long on(OwnedByTwos town, int n);
    }

    private static long[] all(Maker maker, Call first) {
        List<Long> answers = new ArrayList<>();
        for (int image = NO_IMAGE; image < 4; image++) {
            OwnedByTwos t = after(maker, first, image, answers);
            List<Call> questions = image == NO_IMAGE ? now(t) : state(t);
            for (int i = 0; i < questions.size(); i++) {
                if (i % ASKED_OF_ONE == 0) {
                    t = after(maker, first, image, answers);
                }
                answers.add(questions.get(i).on(t));
            }
        }
        theTape(after(maker, first, NO_IMAGE, answers), answers);
        return answers.stream().mapToLong(Long::longValue).toArray();
    }

    private static OwnedByTwos after(Maker maker, Call first, int image, List<Long> answers) {
        OwnedByTwos t = maker.make();
        first.on(t);
        if (image != NO_IMAGE) {
            answers.add((long) t.back(image));
        }
        return t;
    }

    /** What PEOPLE, THINGS, WORKS are and have. */
    private static List<Call> state(OwnedByTwos t) {
        List<Call> questions = new ArrayList<>();
        int people = t.count(0);
        int things = t.count(2);
        int works = t.count(3);
        for (int what = 0; what <= 10; what++) {
            int w = what;
            questions.add(x -> x.count(w));
        }
        for (int i = 0; i < 12 * 12 * 5; i++) {
            int one = i / 60;
            int other = i / 5 % 12;
            int w = i % 5;
            if (one < people && other < people) {
                questions.add(x -> x.two(one, other, w));
            }
        }
        for (int i = 0; i < 24 * 7; i++) {
            int n = i / 7;
            int w = i % 7;
            if (n < people) {
                questions.add(x -> x.of(n, w));
            }
            if (n < things && w < 3) {
                questions.add(x -> x.things(n, w));
            }
            if (n < works && w < 5) {
                questions.add(x -> x.works(n, w));
            }
        }
        return questions;
    }

    /** The state, and what is reckoned from it by the first LAW and the last. */
    private static List<Call> now(OwnedByTwos t) {
        List<Call> questions = state(t);
        questions.add(x -> x.stopped());
        questions.add(x -> x.least());
        questions.add(x -> x.towards(0) * 10000 + x.towards(1) * 100 + x.towards(2));
        questions.add(x -> x.worth(63));
        int laws = t.count(6);
        for (int law = 0; law < laws; law += Math.max(1, laws - 1)) {
            byLaw(t, law, questions);
        }
        return questions;
    }

    private static void byLaw(OwnedByTwos t, int law, List<Call> questions) {
        int people = t.count(0);
        int works = t.count(3);
        for (int work = 0; work < works; work++) {
            int w = work;
            questions.add(x -> x.can(law, w));
            questions.add(x -> x.bars(law, w));
            for (int set = t.works(work, 1); set != 0; set &= set - 1) {
                int thing = Integer.numberOfTrailingZeros(set);
                questions.add(x -> x.had(law, w, thing));
            }
        }
        for (int person = 0; person < people; person++) {
            int p = person;
            questions.add(x -> x.then(law, p));
        }
        for (int what = 0; what < 3; what++) {
            int w = what;
            questions.add(x -> x.judged(law, w));
            questions.add(x -> x.runs(law, 2, 3, w));
        }
        questions.add(x -> x.all(law, 0));
    }

    /** The bytes of the TAPE show by the LAW that they are, or by its FAULT. */
    private static void theTape(OwnedByTwos t, List<Long> answers) {
        int works = t.count(3);
        int law = t.law();
        answers.add((long) law);
        answers.add((long) t.count(10));
        for (int work = 0; work < works; work++) {
            answers.add((long) t.had(law, work, Integer.numberOfTrailingZeros(t.works(work, 1))));
        }
    }
}
