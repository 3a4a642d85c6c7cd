import java.util.Arrays;

/** Whatever the arguments and the state: every call answers, none throws; the same calls, the same answers. */
public final class AnyCallsTest {
    private static final int[] NUMBERS = {0, 1, 2, 3, 4, 5, 16, 17, 19, 20, 21, 32, 97, 119, 120, 126, 127, 299, 300,
        400, -1, -2, -3, 1000000, 1000001, Integer.MAX_VALUE, Integer.MIN_VALUE, Integer.MAX_VALUE - 19};
    private static final String TEXT = "ab(c|[d-f])*{2,9}?.\\+-^]";
    private static long seed;

    private static int below(int bound) {
        seed = seed * 6364136223846793005L + 1442695040888963407L;
        return (int) ((seed >>> 33) % bound);
    }

    private static int any() {
        return NUMBERS[below(NUMBERS.length)];
    }

    private static int small() {
        return below(3) == 0 ? any() : below(8);
    }

    private static int fourSigns() {
        int number = 0;
        for (int i = 0; i < 4; i++) {
            number = number << 8 | TEXT.charAt(below(TEXT.length()));
        }
        return below(40) == 0 ? any() : number;
    }

    private static long call(FuzzyWords x) {
        boolean swaps = below(2) == 0;
        switch (below(32)) {
            case 0: return x.end(any());
            case 1: return x.byteOf(small());
            case 2: return x.add(small());
            case 3: return x.drop(any());
            case 4: return x.word(small(), small() - 2);
            case 5: return x.distance(small(), small(), swaps);
            case 6: return x.near(small(), swaps, small());
            case 7: return x.wild();
            case 8: return x.regular();
            case 9: return x.between(small(), swaps, below(2) == 0);
            case 10: return x.place();
            case 11: return x.keep();
            case 12: return x.make(any());
            case 13: return x.same();
            case 14: return x.next(small(), any());
            case 15: return x.accepts(small());
            case 16: return x.number(small());
            case 17: return x.shortest();
            case 18: return x.walk();
            case 19: return x.taken(small());
            case 20: return x.steps();
            case 21: return x.best(small());
            case 22: return x.count(small());
            case 23: return x.make(below(4));
            case 24: case 25: case 26: return x.end(below(21));
            default: return x.feed(fourSigns(), fourSigns(), fourSigns(), fourSigns(), fourSigns());
        }
    }

    private static long[] run(int number) {
        seed = number;
        FuzzyWords x = new FuzzyWords();
        long[] answers = new long[600];
        for (int i = 0; i < answers.length; i++) {
            answers[i] = call(x);
        }
        return answers;
    }

    public static void main(String[] args) {
        int wrong = 0;
        for (int number = 0; number < 3000; number++) {
            try {
                if (!Arrays.equals(run(number), run(number))) {
                    wrong++;
                    System.out.println("run " + number + " answers otherwise the second time");
                }
            } catch (RuntimeException thrown) {
                wrong++;
                thrown.printStackTrace(System.out);
            }
        }
        System.out.println("AnyCallsTest: 3000 runs of any calls, " + wrong + " wrong");
        if (wrong != 0) {
            System.exit(1);
        }
    }
}
