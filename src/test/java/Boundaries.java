import java.util.function.Supplier;
import java.util.function.ToLongFunction;

/** A call just inside a boundary, one just outside it, and what stays: for tests that extend it. */
abstract class Boundaries extends Answers {
    static final int[] NO_SIGNS = {0, 31, 127, 128, 255};
    private static int sentences = 0;

    /** The document's sentence that the answers from here on are about. */
    static void sentence(String words) {
        about = words;
        sentences++;
    }

    static void reportSentences(String name) {
        report(name + ": " + sentences + " sentences");
    }

    /** An object that has something of all: words, two machines, a walk(), a near(), the place of a fault. */
    static FuzzyWords rich() {
        FuzzyWords x = words("b", "ab", "abc", "xa");
        type(x, "a[bc]*x?");
        x.regular();
        x.keep();
        type(x, "ab(");
        x.regular();
        type(x, "ab");
        x.near(1, true, 0);
        x.walk();
        type(x, "aa");
        x.add(7);
        return x;
    }

    static FuzzyWords rich(String tape) {
        FuzzyWords x = rich();
        type(x, tape);
        return x;
    }

    private static Supplier<FuzzyWords> asked(Supplier<FuzzyWords> made, ToLongFunction<FuzzyWords> call) {
        return () -> {
            FuzzyWords x = made.get();
            call.applyAsLong(x);
            return x;
        };
    }

    /** A call that answers so and changes nothing at all. */
    static void leaves(String what, Supplier<FuzzyWords> made, ToLongFunction<FuzzyWords> call, long want) {
        due(what, call.applyAsLong(made.get()), want);
        Supplier<FuzzyWords> behind = asked(made, call);
        due(what + ": whether the tape stays", View.isSame(made, behind, View.TAPE) ? 1 : 0, 1);
        due(what + ": whether the place stays", View.isSame(made, behind, View.PLACE) ? 1 : 0, 1);
        due(what + ": whether all else stays", View.isSameButTapeAndPlace(made, behind) ? 1 : 0, 1);
    }

    static void refused(String what, String tape, ToLongFunction<FuzzyWords> call, long want) {
        leaves(what + " of '" + tape + "'", () -> rich(tape), call, want);
    }

    /** A question that is answered so, with this place behind it; the tape is empty, all else stays. */
    static void stopped(String text, ToLongFunction<FuzzyWords> question, long want, int place) {
        FuzzyWords x = rich(text);
        due(text, question.applyAsLong(x), want);
        due(text + ": the place", x.place(), place);
        due(text + ": bytes of the tape", x.count(3), 0);
        Supplier<FuzzyWords> made = () -> rich(text);
        due(text + ": whether all else stays", View.isSameButTapeAndPlace(made, asked(made, question)) ? 1 : 0, 1);
    }

    /** A question that is answered by so many states; the tape is empty then. */
    static FuzzyWords went(String text, ToLongFunction<FuzzyWords> question, int states) {
        FuzzyWords x = rich(text);
        due(text, question.applyAsLong(x), states);
        due(text + ": states at hand", x.count(1), states);
        due(text + ": bytes of the tape", x.count(3), 0);
        return x;
    }

    /** Numbers that lie around two bounds, and as far from them as can be. */
    static int[] outside(int first, int last) {
        return new int[] {first - 1, last + 1, Integer.MIN_VALUE, Integer.MAX_VALUE};
    }
}
