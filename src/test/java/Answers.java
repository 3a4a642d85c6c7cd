/** Short ways to ask, and to hold an answer against the one that is due: for tests that extend it. */
abstract class Answers {
    static final int BAD = -1, NONE = -2, FULL = -3, TOO_MANY = -4;
    static int passed = 0, failed = 0;
    /** What the answers that are held now are about. */
    static String about = "";

    static void due(String what, long got, long want) {
        if (got == want) {
            passed++;
        } else {
            failed++;
            System.out.println(about + ": " + what + " answered " + got + ", due is " + want);
        }
    }

    static void type(FuzzyWords x, String text) {
        for (int start = 0; start < text.length(); start += 20) {
            int[] numbers = new int[5];
            for (int i = 0; i < 20; i++) {
                int code = start + i < text.length() ? text.charAt(start + i) : ' ';
                numbers[i / 4] |= (code & 255) << (24 - 8 * (i % 4));
            }
            x.feed(numbers[0], numbers[1], numbers[2], numbers[3], numbers[4]);
            if (start + 20 > text.length()) {
                x.end(text.length() - start);
            }
        }
    }

    static FuzzyWords typed(String text) {
        FuzzyWords x = new FuzzyWords();
        type(x, text);
        return x;
    }

    static FuzzyWords grammar(String text) {
        FuzzyWords x = typed(text);
        x.regular();
        return x;
    }

    static FuzzyWords words(String... words) {
        FuzzyWords x = new FuzzyWords();
        for (int i = 0; i < words.length; i++) {
            type(x, words[i]);
            x.add(i);
        }
        return x;
    }

    static String tape(FuzzyWords x) {
        StringBuilder text = new StringBuilder();
        int length = x.count(3);
        for (int i = 0; i < length; i++) {
            text.append((char) x.byteOf(i));
        }
        return text.toString();
    }

    /** Twenty bytes are fed, so that twenty can be left out until none is there. */
    static void clearTape(FuzzyWords x) {
        while (x.count(3) > 0) {
            int odd = x.count(3) % 20;
            x.feed(0, 0, 0, 0, 0);
            x.end(odd == 0 ? 0 : 20 - odd);
            while (x.count(3) >= 20) {
                x.end(0);
            }
        }
    }

    static String word(FuzzyWords x, int i) {
        StringBuilder text = new StringBuilder();
        int length = x.word(i, -1);
        for (int k = 0; k < length; k++) {
            text.append((char) x.word(i, k));
        }
        return text.toString();
    }

    static void dueText(String what, String got, String want) {
        due(what + ": '" + got + "' against '" + want + "'", got.equals(want) ? 1 : 0, 1);
    }

    /** Whether the machine at hand takes a word, by its states alone. */
    static int takes(FuzzyWords x, String word) {
        int state = x.count(1) == 0 ? NONE : 0;
        for (int i = 0; i < word.length() && state >= 0; i++) {
            state = x.next(state, word.charAt(i));
        }
        return state < 0 ? 0 : x.accepts(state);
    }

    static String many(String text, int times) {
        return text.repeat(times);
    }

    /** Tells how many answers were held, and ends with 1 if one of them was wrong. */
    static void report(String name) {
        System.out.println(name + ": " + passed + " answers are as due, " + failed + " are not");
        if (failed != 0) {
            System.exit(1);
        }
    }
}
