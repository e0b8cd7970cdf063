import java.util.ArrayList;
import java.util.List;
import java.util.function.Function;
import java.util.function.Supplier;

/** What an object answers to all kinds of questions: objects of the same state look the same. */
final class Picture {
    // So few that these and the calls that made the object stay below 512 together.
    private static final int QUESTIONS_OF_ONE_OBJECT = 100;
    private static final int[] BLOCKS = {0, 1, 2, 3, 4, 5, 6, 99, 100, 999, 1000};

    private record Question(String name, Function<TapeChains, Object> ask) {}

    private final List<Question> questions = new ArrayList<>();
    private final List<String> answers = new ArrayList<>();

    /** The maker must make a new object of the same state each time. */
    Picture(Supplier<TapeChains> maker) {
        int dumps = maker.get().count(0);
        askForCounts();
        askForDumps(dumps);
        askForVolumes();
        askForSpares(dumps);
        askForLost();
        answer(maker, QUESTIONS_OF_ONE_OBJECT);
        questions.clear();
        askForLevels(dumps);
        answer(maker, 1);
    }

    /** The first answer that is another one than in the other picture; empty if there is none. */
    String differsFrom(Picture other) {
        for (int i = 0; i < answers.size() && i < other.answers.size(); i++) {
            if (!answers.get(i).equals(other.answers.get(i))) {
                return answers.get(i) + " instead of " + other.answers.get(i);
            }
        }
        return answers.size() == other.answers.size() ? "" : "another number of answers";
    }

    private void add(String name, Function<TapeChains, Object> ask) {
        questions.add(new Question(name, ask));
    }

    private void askForCounts() {
        for (int i = 0; i <= 5; i++) {
            int what = i;
            add("count(" + what + ")", x -> x.count(what));
        }
    }

    private void askForDumps(int dumps) {
        for (int i = 0; i <= dumps; i++) {
            int d = i;
            String name = "(" + d;
            add("depth" + name + ")", x -> x.depth(d));
            add("needs" + name + ")", x -> x.needs(d));
            add("good" + name + ")", x -> x.good(d));
            add("latest" + name + ")", x -> x.latest(d));
            add("chain" + name + ", 1)", x -> x.chain(d, 1));
            add("chain" + name + ", 2)", x -> x.chain(d, 2));
            add("place" + name + ", 0)", x -> x.place(d, 0));
            add("place" + name + ", 1)", x -> x.place(d, 1));
        }
    }

    private void askForVolumes() {
        for (int i = 0; i < 64; i++) {
            int v = i;
            for (int b : BLOCKS) {
                add("owner(" + v + ", " + b + ")", x -> x.owner(v, b));
            }
        }
    }

    private void askForSpares(int dumps) {
        for (int i = 0; i <= dumps + 1; i++) {
            int n = i;
            add("spare(" + n + ")", x -> x.spare(n));
        }
    }

    private void askForLost() {
        for (int i = 0; i < 64; i++) {
            int v = i;
            add("lose(" + v + ", true)", x -> x.lose(v, true));
        }
    }

    /** Levels show in the bases of later dumps alone. */
    private void askForLevels(int dumps) {
        for (int gone : new int[] {0, 1, dumps / 2, dumps - 1}) {
            add("levels of all but " + gone, x -> {
                x.drop(gone);
                return nextBases(x);
            });
        }
    }

    private static String nextBases(TapeChains x) {
        StringBuilder bases = new StringBuilder();
        for (int level = 0; level <= 9; level++) {
            int d = x.dump(level, 1);
            bases.append(d).append(" upon ").append(x.chain(d, 1));
            bases.append(" at ").append(x.place(d, 0)).append("; ");
            x.drop(1);
        }
        return bases.toString();
    }

    private void answer(Supplier<TapeChains> maker, int questionsOfOneObject) {
        TapeChains x = null;
        for (int i = 0; i < questions.size(); i++) {
            if (i % questionsOfOneObject == 0) {
                x = maker.get();
            }
            answers.add(questions.get(i).name() + ": " + outcome(questions.get(i), x));
        }
    }

    private static Object outcome(Question question, TapeChains x) {
        try {
            return question.ask().apply(x);
        } catch (RuntimeException e) {
            return e.getClass().getSimpleName();
        }
    }
}
