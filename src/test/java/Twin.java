/** A program and a model that get the same calls; an answer in which they differ is told. */
final class Twin {
    static int wrong = 0, calls = 0;
    final FuzzyWords program = new FuzzyWords();
    final Model model = new Model();
    private final StringBuilder told = new StringBuilder();

    private long hold(String call, long got, long due) {
        calls++;
        told.append("  ").append(call).append(" = ").append(due).append('\n');
        if (got != due) {
            wrong++;
            if (wrong <= 5) {
                System.out.println(call + " answered " + got + ", due is " + due + ", behind\n" + told);
            }
        }
        return due;
    }

    int feed(int a, int b, int c, int d, int e) {
        return (int) hold("feed(" + a + ", " + b + ", " + c + ", " + d + ", " + e + ")",
            program.feed(a, b, c, d, e), model.feed(a, b, c, d, e));
    }

    int end(int n) {
        return (int) hold("end(" + n + ")", program.end(n), model.end(n));
    }

    /** A text behind the tape, if it has room. */
    void type(String text) {
        for (int start = 0; start < text.length(); start += 20) {
            int[] numbers = new int[5];
            for (int i = 0; i < 20; i++) {
                int code = start + i < text.length() ? text.charAt(start + i) : ' ';
                numbers[i / 4] |= (code & 255) << (24 - 8 * (i % 4));
            }
            if (feed(numbers[0], numbers[1], numbers[2], numbers[3], numbers[4]) == Model.FULL) {
                return;
            }
            if (start + 20 > text.length()) {
                end(text.length() - start);
            }
        }
        told.append("  (typed ").append(text).append(")\n");
    }

    void byteOf(int i) {
        hold("byteOf(" + i + ")", program.byteOf(i), model.byteOf(i));
    }

    int add(int use) {
        return (int) hold("add(" + use + ")", program.add(use), model.add(use));
    }

    void drop(int i) {
        hold("drop(" + i + ")", program.drop(i), model.drop(i));
    }

    void word(int i, int k) {
        hold("word(" + i + ", " + k + ")", program.word(i, k), model.word(i, k));
    }

    void distance(int i, int j, boolean swaps) {
        hold("distance(" + i + ", " + j + ", " + swaps + ")",
            program.distance(i, j, swaps), model.distance(i, j, swaps));
    }

    int near(int e, boolean swaps, int p) {
        return (int) hold("near(" + e + ", " + swaps + ", " + p + ")",
            program.near(e, swaps, p), model.near(e, swaps, p));
    }

    int wild() {
        return (int) hold("wild()", program.wild(), model.wild());
    }

    int regular() {
        return (int) hold("regular()", program.regular(), model.regular());
    }

    int between(int n, boolean lowerIn, boolean upperIn) {
        return (int) hold("between(" + n + ", " + lowerIn + ", " + upperIn + ")",
            program.between(n, lowerIn, upperIn), model.between(n, lowerIn, upperIn));
    }

    void place() {
        hold("place()", program.place(), model.place());
    }

    int keep() {
        return (int) hold("keep()", program.keep(), model.keep());
    }

    int make(int what) {
        return (int) hold("make(" + what + ")", program.make(what), model.make(what));
    }

    void same() {
        hold("same()", program.same(), model.same());
    }

    void next(int state, int sign) {
        hold("next(" + state + ", " + sign + ")", program.next(state, sign), model.next(state, sign));
    }

    void accepts(int state) {
        hold("accepts(" + state + ")", program.accepts(state), model.accepts(state));
    }

    void number(int length) {
        hold("number(" + length + ")", program.number(length), model.number(length));
    }

    int shortest() {
        return (int) hold("shortest()", program.shortest(), model.shortest());
    }

    int walk() {
        return (int) hold("walk()", program.walk(), model.walk());
    }

    void taken(int i) {
        hold("taken(" + i + ")", program.taken(i), model.taken(i));
    }

    void steps() {
        hold("steps()", program.steps(), model.steps());
    }

    void best(int i) {
        hold("best(" + i + ")", program.best(i), model.best(i));
    }

    int count(int what) {
        return (int) hold("count(" + what + ")", program.count(what), model.count(what));
    }

    /** Every answer that tells of the machine at hand, without a word of it in what is told. */
    void compareMachine() {
        count(1);
        for (int state = -1; state <= model.hand.states(); state++) {
            boolean same = program.accepts(state) == model.accepts(state);
            for (int sign = 31; sign <= 127; sign++) {
                same &= program.next(state, sign) == model.next(state, sign);
            }
            if (!same) {
                hold("state " + state + " of the machine", 1, 0);
            }
        }
    }
}
