import java.util.ArrayList;
import java.util.List;
import java.util.function.Supplier;
import java.util.function.ToLongFunction;

/** All that can be seen of an object by its calls: by it a test tells whether a call has changed something. */
final class View {
    /** An object is promised 512 calls and is seen by more, so it is made anew behind each hundred. */
    private static final int LOOKS_OF_ONE_OBJECT = 100;
    static final List<ToLongFunction<FuzzyWords>> TAPE = tapeLooks();
    static final List<ToLongFunction<FuzzyWords>> PLACE = List.of(FuzzyWords::place);
    static final List<ToLongFunction<FuzzyWords>> OTHERS = otherLooks();
    /** Looks that change the object: each has one of its own. */
    private static final List<ToLongFunction<FuzzyWords>> CHANGES = changingLooks();

    private View() {
    }

    private static List<ToLongFunction<FuzzyWords>> tapeLooks() {
        List<ToLongFunction<FuzzyWords>> looks = new ArrayList<>();
        looks.add(x -> x.count(3));
        for (int i = 0; i <= 400; i++) {
            int spot = i;
            looks.add(x -> x.byteOf(spot));
        }
        return looks;
    }

    private static List<ToLongFunction<FuzzyWords>> otherLooks() {
        List<ToLongFunction<FuzzyWords>> looks = new ArrayList<>();
        for (int what : new int[] {0, 1, 2, 4}) {
            looks.add(x -> x.count(what));
        }
        looks.add(FuzzyWords::same);
        looks.add(FuzzyWords::steps);
        for (int i = 0; i <= 8; i++) {
            int length = i;
            looks.add(x -> x.number(length));
        }
        addWordLooks(looks);
        addStateLooks(looks);
        return looks;
    }

    private static void addWordLooks(List<ToLongFunction<FuzzyWords>> looks) {
        for (int i = 0; i <= 120; i++) {
            int number = i;
            looks.add(x -> x.taken(number));
            looks.add(x -> x.best(number));
            for (int k = -2; k < 4; k++) {
                int part = k;
                looks.add(x -> x.word(number, part));
            }
        }
    }

    private static void addStateLooks(List<ToLongFunction<FuzzyWords>> looks) {
        for (int i = 0; i <= 300; i++) {
            int state = i;
            looks.add(x -> x.accepts(state));
            for (char sign : " abcx~".toCharArray()) {
                looks.add(x -> x.next(state, sign));
            }
        }
    }

    private static List<ToLongFunction<FuzzyWords>> changingLooks() {
        List<ToLongFunction<FuzzyWords>> looks = new ArrayList<>();
        for (int i = 0; i < 4; i++) {
            int what = i;
            looks.add(x -> x.make(what));
            looks.add(x -> x.make(what) < 0 ? 0 : x.number(8));
        }
        looks.add(FuzzyWords::shortest);
        looks.add(FuzzyWords::walk);
        return looks;
    }

    private static List<Long> answers(Supplier<FuzzyWords> made, List<ToLongFunction<FuzzyWords>> looks) {
        List<Long> answers = new ArrayList<>();
        FuzzyWords x = null;
        for (int i = 0; i < looks.size(); i++) {
            x = i % LOOKS_OF_ONE_OBJECT == 0 ? made.get() : x;
            answers.add(looks.get(i).applyAsLong(x));
        }
        return answers;
    }

    private static List<Long> changes(Supplier<FuzzyWords> made) {
        List<Long> answers = new ArrayList<>();
        for (ToLongFunction<FuzzyWords> look : CHANGES) {
            answers.add(look.applyAsLong(made.get()));
        }
        return answers;
    }

    static boolean isSame(
        Supplier<FuzzyWords> one, Supplier<FuzzyWords> other, List<ToLongFunction<FuzzyWords>> looks) {
        return answers(one, looks).equals(answers(other, looks));
    }

    /** Words, machines and what the latest walk() and near() left: all but the tape and the place. */
    static boolean isSameButTapeAndPlace(Supplier<FuzzyWords> one, Supplier<FuzzyWords> other) {
        return isSame(one, other, OTHERS) && changes(one).equals(changes(other));
    }
}
