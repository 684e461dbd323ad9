import java.util.ArrayList;
import java.util.HashMap;
import java.util.List;
import java.util.Map;
import java.util.function.Supplier;

/**
 * All that can be asked after a row of calls. Each object is used for 512 calls at most, the
 * questions included, so that the calls are made again on a fresh object when those are spent.
 */
final class Told {
    /** How many calls an object is good for. */
    static final int CALLS = 512;

    private static final Map<List<Integer>, List<Call>> QUESTIONS = new HashMap<>();

    private final Supplier<?> maker;
    private final List<Call> made;
    private final List<Call> questions;
    private final int[] answers;
    private Object target;
    private int used;
    /** What the last one of the calls answered. */
    final int last;
    /** How many states the history has, and characters the text: no part of a state. */
    final int states;
    final int characters;

    private Told(Supplier<?> maker, List<Call> made) {
        if (made.size() >= CALLS) {
            throw new IllegalArgumentException("no call is left for a question");
        }
        this.maker = maker;
        this.made = made;
        last = begin();
        states = ask(new Call("count", 11));
        characters = ask(new Call("count", 12));
        int flats = ask(new Call("count", 0));
        int households = ask(new Call("count", 1));
        questions = QUESTIONS.computeIfAbsent(List.of(flats, households),
            any -> questions(flats, households));
        answers = new int[questions.size()];
        for (int i = 0; i < answers.length; i++) {
            answers[i] = ask(questions.get(i));
        }
    }

    static Told after(Supplier<?> maker, List<Call> made) {
        return new Told(maker, made);
    }

    private int begin() {
        target = maker.get();
        int answer = 0;
        for (Call call : made) {
            answer = call.on(target);
        }
        used = made.size();
        return answer;
    }

    private int ask(Call question) {
        if (used == CALLS) {
            begin();
        }
        used++;
        return question.on(target);
    }

    /** What is asked of a state, beyond its flats, households and ranges by one. */
    private static List<Call> questions(int flats, int households) {
        List<Call> questions = new ArrayList<>();
        for (int what = -1; what <= 13; what++) {
            if (what != 11 && what != 12) {
                questions.add(new Call("count", what));
            }
        }
        questions.add(new Call("most"));
        for (int flat = 0; flat <= flats; flat++) {
            for (int what = -1; what <= 5; what++) {
                questions.add(new Call("flat", flat, what));
            }
        }
        for (int household = 0; household <= households; household++) {
            questions.add(new Call("ordered", household));
            for (int what = -1; what <= 10; what++) {
                questions.add(new Call("household", household, what));
            }
            for (int place = -1; place <= 6; place++) {
                questions.add(new Call("wished", household, place));
            }
            questions.add(new Call("wouldGet", household, FlatLottery.NONE));
            for (int other = 0; other <= households; other++) {
                questions.add(new Call("envies", household, other));
                questions.add(new Call("wouldGet", household, other));
            }
        }
        return questions;
    }

    /** The first thing that is told otherwise of the states, or null if there is none. */
    String differenceFrom(Told other) {
        // The same questions are asked where there are as many flats and households; where there
        // are not, the counts, which are asked first, differ.
        for (int i = 0; i < Math.min(answers.length, other.answers.length); i++) {
            if (answers[i] != other.answers[i]) {
                return questions.get(i) + " = " + answers[i] + " against " + other.answers[i];
            }
        }
        return null;
    }
}
