import java.util.ArrayList;
import java.util.List;
import java.util.function.Supplier;
import java.util.function.ToIntFunction;

/** Two objects made alike, one of which gets a refused call more: nothing that is asked later tells them apart. */
final class Twin {
    // An object has 512 calls: not all questions fit behind a long making, so each pair of twins gets some of them.
    private static final int QUESTIONS_A_PAIR = 150;
    private static final int STEPS_IN_LATER_LIFE = 14;

    private Twin() {
    }

    /** The call, on what is made, is answered by BAD, BUSY or FULL (or 0 for false) and changes nothing. */
    static void refused(String call, Supplier<EpochLeaves> made, ToIntFunction<EpochLeaves> asked, int answer) {
        for (int from = 0; from < Told.QUESTIONS.length; from += QUESTIONS_A_PAIR) {
            EpochLeaves one = made.get();
            EpochLeaves other = made.get();
            Check.due(call, asked.applyAsInt(one), answer);
            int to = Math.min(from + QUESTIONS_A_PAIR, Told.QUESTIONS.length);
            for (int i = from; i < to; i++) {
                int[] question = Told.QUESTIONS[i];
                Check.due(call + " changes nothing: " + Told.name(question),
                        Told.ask(one, question), Told.ask(other, question));
            }
        }
        EpochLeaves one = made.get();
        asked.applyAsInt(one);
        sameLater(call, laterLife(one), laterLife(made.get()));
    }

    /** As above, on a new object and on one with a worker in each state. */
    static void refusedAnywhere(String call, ToIntFunction<EpochLeaves> asked, int answer) {
        refused(call + " on a new object", EpochLeaves::new, asked, answer);
        refused(call + " on a busy object", Made::busy, asked, answer);
    }

    private static void sameLater(String call, List<Integer> one, List<Integer> other) {
        for (int i = 0; i < one.size(); i++) {
            Check.due(call + " changes no later answer: number " + i, one.get(i), other.get(i));
        }
    }

    // What no question tells comes out here: instructions, counts of those done, latest stamps, what a log holds.
    private static List<Integer> laterLife(EpochLeaves x) {
        List<Integer> answers = new ArrayList<>();
        for (int w = 3; w >= 0; w--) {
            answers.add(x.run(w, 100));
        }
        answers.add(x.advance());
        for (int p = 0; p < 4; p++) {
            answers.add(x.code(p, Check.SET, 3, 77, 0));
        }
        for (int w = 0; w < 4; w++) {
            answers.add(x.start(w, w, 3, 5));
            for (int step = 0; step < STEPS_IN_LATER_LIFE; step++) {
                answers.add(x.worker(w, 2));
                answers.add(x.step(w));
                answers.add(x.register(w, 2));
            }
            answers.add(x.run(w, 100));
            answers.add(x.transaction(x.log(w, 0), 1));
        }
        for (int w = 0; w < 4; w++) {
            answers.add(x.flush(w));
        }
        answers.add(x.crash());
        for (int key = 0; key < 8; key++) {
            answers.add(x.entry(key, 2));
        }
        return answers;
    }
}
