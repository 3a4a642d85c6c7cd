import java.util.function.ToLongFunction;

/** Sentences of the document that name a boundary: the tape, the dictionary, machines, walking. */
public final class BoundariesTest extends Boundaries {
    private static void objects() {
        sentence("an object is used for at most 512 calls");
        FuzzyWords x = new FuzzyWords();
        type(x, "x.*a.{7}|yb{20}b{20}bb");
        x.regular();
        due("the fifth call", x.keep(), 300);
        for (int call = 6; call < 512; call++) {
            x.make(call % 2);
        }
        due("the 512th call", x.make(1), 300);

        sentence("1: no words; machines of nothing");
        FuzzyWords y = new FuzzyWords();
        for (int what = 0; what <= 4; what++) {
            due("count(" + what + ")", y.count(what), 0);
        }
        due("same()", y.same(), 1);
        due("number(0)", y.number(0), 0);
        due("keep()", y.keep(), 0);
        due("make(1)", y.make(1), 0);
        due("make(0)", y.make(0), 0);
        due("make(3): all words", y.make(3), 1);
        due("make(2): ANOTHER is of nothing still", y.make(2), 1);
    }

    private static FuzzyWords ofTape(int length) {
        FuzzyWords x = rich();
        for (int i = 0; i * 20 < length; i++) {
            x.feed(i, -i, i << 24, i << 16, Integer.MIN_VALUE);
        }
        if (length % 20 != 0) {
            x.end(length % 20);
        }
        return x;
    }

    private static void feed() {
        ToLongFunction<FuzzyWords> feed = x -> x.feed(1, 2, 3, 4, 5);
        sentence("2: feed: twenty bytes come behind the tape, the highest of each number first");
        FuzzyWords x = new FuzzyWords();
        due("feed", x.feed(0x00010203, 0x7F80FEFF, Integer.MIN_VALUE, -1, Integer.MAX_VALUE), 20);
        int[] bytes = {0, 1, 2, 3, 127, 128, 254, 255, 128, 0, 0, 0, 255, 255, 255, 255, 127, 255, 255, 255};
        for (int i = 0; i < 20; i++) {
            due("byteOf(" + i + ")", x.byteOf(i), bytes[i]);
        }

        sentence("2: feed: FULL: above 400");
        due("380 and twenty", feed.applyAsLong(ofTape(380)), 400);
        due("379 and twenty", feed.applyAsLong(ofTape(379)), 399);
        leaves("381 and twenty", () -> ofTape(381), feed, FULL);
        leaves("399 and twenty", () -> ofTape(399), feed, FULL);
        leaves("400 and twenty", () -> ofTape(400), feed, FULL);
    }

    private static void end() {
        sentence("3: end: the first n (0 .. 20) stay; BAD: another n");
        for (int n = 0; n <= 20; n++) {
            FuzzyWords x = typed("abcdefghijklmnopqrstABCDEFGHIJKLMNOPQRST");
            due("end(" + n + ")", x.end(n), 20 + n);
            dueText("what stays", tape(x), "abcdefghijklmnopqrstABCDEFGHIJKLMNOPQRST".substring(0, 20 + n));
        }
        for (int n : outside(0, 20)) {
            refused("end(" + n + ")", "abcdefghijklmnopqrstuv", x -> x.end(n), BAD);
        }

        sentence("3: end: BAD: fewer than twenty are there");
        due("of twenty", typed(many("a", 20)).end(0), 0);
        due("of twenty, all", typed(many("a", 20)).end(20), 20);
        refused("end(0)", many("a", 19), x -> x.end(0), BAD);
        refused("end(19)", many("a", 19), x -> x.end(19), BAD);
        refused("end(20)", many("a", 19), x -> x.end(20), BAD);
        refused("end(0)", "", x -> x.end(0), BAD);
    }

    private static void byteOf() {
        sentence("4: byteOf: BAD: none such");
        FuzzyWords x = ofTape(400);
        due("byteOf(0)", x.byteOf(0), 0);
        due("byteOf(396)", x.byteOf(396), 128);
        due("byteOf(399)", x.byteOf(399), 0);
        due("byteOf(400)", x.byteOf(400), BAD);
        for (int i : outside(0, 2)) {
            refused("byteOf(" + i + ")", "abc", y -> y.byteOf(i), BAD);
        }
        refused("byteOf(0)", "", y -> y.byteOf(0), BAD);
        due("byteOf(2)", rich("abc").byteOf(2), 'c');
        FuzzyWords shorter = typed("abcdefghijklmnopqrst");
        shorter.end(3);
        due("byteOf(2) behind end(3)", shorter.byteOf(2), 'c');
        due("byteOf(3) behind end(3)", shorter.byteOf(3), BAD);
    }

    private static void signs() {
        sentence("signs are 32 .. 126: add");
        for (int code : NO_SIGNS) {
            refused("add(1), " + code, "a" + (char) code, x -> x.add(1), BAD);
            refused("add(1), " + code, (char) code + "a", x -> x.add(1), BAD);
        }
        for (String edge : new String[] {" ", "~", " ~", "~ "}) {
            FuzzyWords x = rich(edge);
            due("add(1) of '" + edge + "'", x.add(1), 6);
        }
    }

    private static void add() {
        sentence("5: add: BAD: no word of 1 .. 16 SIGNS");
        refused("add(1)", "", x -> x.add(1), BAD);
        refused("add(1)", many("a", 17), x -> x.add(1), BAD);
        refused("add(1)", many("a", 20), x -> x.add(1), BAD);
        refused("add(1)", many("a", 399), x -> x.add(1), BAD);
        for (int length : new int[] {1, 16}) {
            FuzzyWords x = rich(many("c", length));
            due("add(1) of " + length, x.add(1), 6);
            due("the tape is empty", x.count(3), 0);
            dueText("the word", word(x, 4), many("c", length));
            due("its use", x.word(4, -2), 1);
        }

        sentence("5: add: BAD: no USE (0 .. 1,000,000)");
        for (int use : outside(0, 1_000_000)) {
            refused("add(" + use + ")", "new", x -> x.add(use), BAD);
            refused("add(" + use + ")", "ab", x -> x.add(use), BAD);
        }
        for (int use : new int[] {0, 1_000_000}) {
            FuzzyWords x = rich("new");
            due("add(" + use + ")", x.add(use), 6);
            due("its use", x.word(4, -2), use);
        }
        sameWordAgain();
        fullDictionary();
        order();
    }

    private static void sameWordAgain() {
        sentence("5: add: one that is there has another USE then");
        FuzzyWords x = rich("abc");
        due("add(1000000)", x.add(1_000_000), 5);
        due("the tape is empty", x.count(3), 0);
        dueText("it is there once", word(x, 2) + "," + word(x, 3), "abc,b");
        due("its use", x.word(2, -2), 1_000_000);
        due("its neighbour's use", x.word(1, -2), 1);
    }

    /** Words w00 .. w99 and so on, as many as are asked for. */
    private static FuzzyWords many(int count) {
        FuzzyWords x = new FuzzyWords();
        for (int i = 0; i < count; i++) {
            type(x, "w" + (100 + i));
            x.add(i);
        }
        return x;
    }

    private static FuzzyWords many(int count, String tape) {
        FuzzyWords x = many(count);
        type(x, tape);
        return x;
    }

    private static void fullDictionary() {
        sentence("5: add: FULL: 120, and it is none of them (the tape stays)");
        FuzzyWords x = many(119, "x");
        due("the 120th", x.add(3), 120);
        due("the tape is empty", x.count(3), 0);
        leaves("the 121st, last", () -> many(120, "x"), y -> y.add(3), FULL);
        leaves("the 121st, first", () -> many(120, "a"), y -> y.add(3), FULL);
        leaves("a beginning of one that is there", () -> many(120, "w10"), y -> y.add(3), FULL);
        leaves("with no use", () -> many(120, "x"), y -> y.add(-1), BAD);
        leaves("with no sign", () -> many(120, "x\t"), y -> y.add(3), BAD);
        leaves("with no word", () -> many(120), y -> y.add(3), BAD);
        for (int number : new int[] {0, 119}) {
            FuzzyWords y = many(120, "w" + (100 + number));
            due("one of them", y.add(77), 120);
            due("the tape is empty", y.count(3), 0);
            due("it has another use", y.word(number, -2), 77);
        }
        FuzzyWords z = many(120, "x");
        due("drop(0)", z.drop(0), 119);
        due("there is room again", z.add(5), 120);
        dueText("it is there", word(z, 119), "x");
    }

    private static void order() {
        sentence("ORDER: by the first SIGN that differs, the shorter one first if it is the beginning");
        String[] rising = {" ", "  ", " ~", "A", "a", "a ", "aa", "aaa", "aab", "ab", "b", many("b", 15), many("b", 16),
            "b~", "~", "~ ", "~~"};
        FuzzyWords x = new FuzzyWords();
        for (int i = 0; i < rising.length; i++) {
            int other = i * 7 % rising.length;
            type(x, rising[other]);
            x.add(other);
        }
        for (int i = 0; i < rising.length; i++) {
            dueText("word " + i, word(x, i), rising[i]);
            due("its use", x.word(i, -2), i);
        }
    }

    private static void drop() {
        sentence("6: drop: BAD: none such");
        for (int i : outside(0, 4)) {
            refused("drop(" + i + ")", "tape", x -> x.drop(i), BAD);
        }
        leaves("drop(0) of none", FuzzyWords::new, x -> x.drop(0), BAD);
        leaves("drop(120) of 120", () -> many(120), x -> x.drop(120), BAD);
        due("drop(119) of 120", many(120).drop(119), 119);
        FuzzyWords x = rich("tape");
        due("drop(4)", x.drop(4), 4);
        dueText("the last one now", word(x, 3), "b");
        due("drop(4) again", x.drop(4), BAD);
        due("drop(0)", x.drop(0), 3);
        dueText("the first one now", word(x, 0), "ab");
        due("the tape stays", x.count(3), 4);
        for (int left = 2; left >= 0; left--) {
            due("drop(0)", x.drop(0), left);
        }
        due("drop(0) of none", x.drop(0), BAD);
    }

    private static void word() {
        sentence("7: word: BAD: none such");
        for (int i : outside(0, 4)) {
            for (int k = -2; k <= 0; k++) {
                int part = k;
                refused("word(" + i + ", " + k + ")", "", x -> x.word(i, part), BAD);
            }
        }
        for (int k : outside(-2, 1)) {
            refused("word(1, " + k + ")", "", x -> x.word(1, k), BAD);
        }
        due("word(1, 1)", rich().word(1, 1), 'b');
        due("word(1, 0)", rich().word(1, 0), 'a');
        due("word(1, -1)", rich().word(1, -1), 2);
        due("word(1, -2)", rich().word(1, -2), 1);
        due("word(4, 1)", rich().word(4, 1), 'a');
        FuzzyWords x = words(many("x", 15) + "~");
        due("the 16th sign", x.word(0, 15), '~');
        due("the 17th", x.word(0, 16), BAD);
        due("of no words", new FuzzyWords().word(0, -1), BAD);
        due("of none of 120", many(120).word(120, -1), BAD);
        due("of the last of 120", many(120).word(119, -1), 4);
    }

    private static void distance() {
        sentence("8: distance: BAD: none such");
        for (int i : outside(0, 4)) {
            refused("distance(" + i + ", 0)", "", x -> x.distance(i, 0, true), BAD);
            refused("distance(4, " + i + ")", "", x -> x.distance(4, i, false), BAD);
        }
        due("distance(4, 0)", rich().distance(4, 0, true), 1);
        due("distance(0, 4)", rich().distance(0, 4, true), 1);
        due("of no words", new FuzzyWords().distance(0, 0, true), BAD);

        sentence("DISTANCE: the least number of EDITS");
        FuzzyWords x = words(many("a", 16), many("b", 16), "b", many("ab", 8), many("ba", 8));
        // a.. abab.. b baba.. bbbb..
        due("a word and itself", x.distance(0, 0, false), 0);
        due("16 others", x.distance(0, 4, true), 16);
        due("15 less, one another", x.distance(0, 2, true), 16);
        due("15 less", x.distance(4, 2, false), 15);
        due("15 more", x.distance(2, 4, false), 15);
        due("one less ahead, one more behind", x.distance(1, 3, false), 2);
        due("two with swaps, too", x.distance(1, 3, true), 2);

        sentence("DISTANCE: two neighbours swapped, of which neither is edited else");
        FuzzyWords y = words("abcd", "badc", "abdc", "adbc", "ba", "bca", "bac");
        // abcd abdc adbc ba bac badc bca
        due("the last two", y.distance(0, 1, true), 1);
        due("the last two without", y.distance(0, 1, false), 2);
        due("the first two and the last two", y.distance(0, 5, true), 2);
        due("not twice the same one", y.distance(0, 2, true), 2);
        due("ba, bca", y.distance(3, 6, true), 1);
        FuzzyWords z = words("ab", "bca", "xab", "abx");
        // ab abx bca xab
        due("nothing between the two that are swapped", z.distance(0, 2, true), 3);
        due("one more ahead", z.distance(0, 3, true), 1);
        due("one less ahead", z.distance(3, 0, true), 1);
        due("one more behind", z.distance(0, 1, true), 1);
        due("one less behind", z.distance(1, 0, true), 1);
    }

    private static void machines() {
        sentence("a machine: nothing is ACCEPTED: no STATES");
        due("nothing", typed("[^ -~]").regular(), 0);
        due("nothing behind a", typed("a[^ -~]").regular(), 0);
        due("the empty word alone", typed("[^ -~]*").regular(), 1);
        FuzzyWords x = grammar("a[^ -~]|b");
        due("none from which nothing is", x.count(1), 2);
        due("next(0, a)", x.next(0, 'a'), NONE);
        due("next(0, b)", x.next(0, 'b'), 1);

        sentence("a machine: numbered as they are come to, for each SIGN rising");
        FuzzyWords y = grammar("~| b|\\}c(a|d)");
        due("by the lowest sign", y.next(0, ' '), 1);
        due("by the next one", y.next(0, '}'), 2);
        due("by the highest sign", y.next(0, '~'), 3);
        due("from the second", y.next(1, 'b'), 3);
        due("from the third", y.next(2, 'c'), 4);
        due("to one that has a number", y.next(4, 'd'), 3);
    }

    private static void keep() {
        sentence("14: keep: the machine at hand becomes ANOTHER, too");
        due("of nothing", new FuzzyWords().keep(), 0);
        FuzzyWords x = grammar("x.*a.{7}|yb{20}b{20}bb");
        due("of 300", x.keep(), 300);
        due("ANOTHER", x.count(2), 300);
        due("at hand", x.count(1), 300);
        due("same()", x.same(), 1);
        type(x, "[^ -~]");
        x.regular();
        due("the kept one stays", x.count(2), 300);
        due("of nothing, over 300", x.keep(), 0);
        due("ANOTHER", x.count(2), 0);
        due("same()", x.same(), 1);
    }

    private static void make() {
        sentence("15: make: BAD: another number");
        for (int what : outside(0, 3)) {
            refused("make(" + what + ")", "tape", x -> x.make(what), BAD);
        }
        // near ab by one edit: a and any sign, any sign and b, ba; the kept one takes ab, ac and ax of them
        long[] pairs = {190, 3, 187, 9025 - 190};
        for (int what = 0; what <= 3; what++) {
            FuzzyWords x = rich("tape");
            x.make(what);
            due("make(" + what + "): words of two", x.number(2), pairs[what]);
            due("the tape stays", x.count(3), 4);
            due("the place stays", x.place(), 3);
            due("ANOTHER stays", x.count(2), 3);
        }

        sentence("TURNED: words of SIGNS (the empty one, too) that it does not take");
        FuzzyWords x = new FuzzyWords();
        due("of nothing", x.make(3), 1);
        due("the empty one", x.number(0), 1);
        due("all of 8", x.number(8), 6634204312890625L);
        due("of all", x.make(3), 0);
        FuzzyWords y = grammar("");
        y.make(3);
        due("the empty one is not there now", y.number(0), 0);
        due("all of 1", y.number(1), 95);
    }

    private static void same() {
        sentence("16: same: whether they take the same words");
        FuzzyWords x = grammar("");
        due("nothing and the empty word", x.same(), 0);
        x.keep();
        due("the empty word and itself", x.same(), 1);
        type(x, "a{0,20}");
        x.regular();
        x.keep();
        type(x, "a{0,19}");
        x.regular();
        due("one word less", x.same(), 0);
        type(x, "a{0,7}a{0,13}");
        x.regular();
        due("told otherwise", x.same(), 1);
        type(x, "a{0,19}[ab]?");
        x.regular();
        due("one sign more", x.same(), 0);
        String[][] others = {{"[ a]", "a"}, {"[a~]", "a"}, {"a[ b]", "ab"}, {"b", "a"}, {"a?b", "ab"}, {"a*", "a+"}};
        for (String[] two : others) {
            FuzzyWords y = grammar(two[0]);
            y.keep();
            type(y, two[1]);
            y.regular();
            due(two[0] + " and " + two[1], y.same(), 0);
        }
    }

    private static void next() {
        sentence("17: next: BAD: no such STATE, SIGN");
        int states = rich().count(1);
        for (int state : outside(0, states - 1)) {
            refused("next(" + state + ", 97)", "tape", x -> x.next(state, 97), BAD);
        }
        for (int sign : outside(32, 126)) {
            refused("next(0, " + sign + ")", "tape", x -> x.next(0, sign), BAD);
        }
        due("neither", rich().next(-1, 31), BAD);
        due("of nothing", new FuzzyWords().next(0, 97), BAD);
        FuzzyWords large = grammar("x.*a.{7}|yb{20}b{20}bb");
        due("state 299 of 300", large.next(299, 32) == BAD ? 1 : 0, 0);
        due("state 300 of 300", large.next(300, 32), BAD);

        sentence("17: next: NONE: none");
        FuzzyWords x = grammar("[ ~]");
        due("by the lowest sign", x.next(0, 32), 1);
        due("by the highest sign", x.next(0, 126), 1);
        due("by another", x.next(0, 33), NONE);
        due("by another", x.next(0, 125), NONE);
        due("from the last one", x.next(1, 32), NONE);
        due("from none", x.next(2, 32), BAD);
    }

    private static void accepts() {
        sentence("18: accepts: BAD: none such");
        int states = rich().count(1);
        for (int state : outside(0, states - 1)) {
            refused("accepts(" + state + ")", "tape", x -> x.accepts(state), BAD);
        }
        due("of nothing", new FuzzyWords().accepts(0), BAD);
        due("of the empty word", grammar("").accepts(0), 1);
        due("one more", grammar("").accepts(1), BAD);
        FuzzyWords x = grammar("a{20}{6}");
        due("the last one", x.accepts(120), 1);
        due("the one ahead of it", x.accepts(119), 0);
        due("the one behind it", x.accepts(121), BAD);
    }

    private static void number() {
        sentence("19: number: BAD: another length (0 .. 8)");
        for (int length : outside(0, 8)) {
            refused("number(" + length + ")", "tape", x -> x.number(length), BAD);
        }
        FuzzyWords x = grammar(".*");
        due("of 0", x.number(0), 1);
        due("of 8: more than an int holds", x.number(8), 6634204312890625L);
        FuzzyWords y = grammar("a{8}|b{9}");
        due("of 7", y.number(7), 0);
        due("of 8", y.number(8), 1);
        due("of 0", y.number(0), 0);
        due("of 9", y.number(9), BAD);
        due("of nothing", new FuzzyWords().number(8), 0);
    }

    private static void shortest() {
        sentence("20: shortest: NONE: nothing is taken (the tape stays)");
        leaves("of nothing", () -> typed("tape"), FuzzyWords::shortest, NONE);
        leaves("of nothing, made by a question", () -> {
            FuzzyWords x = rich("[^ -~]");
            x.regular();
            type(x, many("t", 399));
            return x;
        }, FuzzyWords::shortest, NONE);

        sentence("20: shortest: the first of the shortest words is the tape then");
        FuzzyWords x = grammar("");
        type(x, "tape");
        due("the empty word", x.shortest(), 0);
        due("the tape is empty", x.count(3), 0);
        FuzzyWords y = grammar("~~|b[b-c]|bbb|ca");
        type(y, many("t", 400));
        due("of four", y.shortest(), 2);
        dueText("the first of three that are as short", tape(y), "bb");
        FuzzyWords mixed = grammar("xyz|wcba|xz~");
        mixed.shortest();
        dueText("each sign", tape(mixed), "xyz");
        FuzzyWords z = grammar("[ -~]|a");
        z.shortest();
        dueText("of the lowest sign", tape(z), " ");
        FuzzyWords large = longChain();
        due("as long as can be", large.shortest(), 299);
        dueText("all of it", tape(large), many("a", 299));
        due("it is a tape as others are", large.end(0), 279);
    }

    /** Rows of a's whose length 13 and 23 divide: no word can be longer and the first by 300 states. */
    private static FuzzyWords longChain() {
        FuzzyWords x = grammar("(a{13})*");
        x.keep();
        type(x, "(a{20}aaa)+");
        x.regular();
        x.make(1);
        return x;
    }

    private static void walk() {
        sentence("21: walk: words of the DICTIONARY are TAKEN: how many");
        due("of no words", grammar("a").walk(), 0);
        due("with a machine of nothing", words("a", "b").walk(), 0);
        FuzzyWords empty = words("a", "b");
        empty.regular();
        due("with the empty word", empty.walk(), 0);
        FuzzyWords x = many(120, ".*");
        x.regular();
        due("all 120", x.walk(), 120);
        due("taken(119)", x.taken(119), 119);
        due("taken(120)", x.taken(120), BAD);
        due("count(4)", x.count(4), 120);
        FuzzyWords long16 = words(many("a", 16), many("a", 15));
        type(long16, ".{16}");
        long16.regular();
        due("of 16 signs", long16.walk(), 1);
        due("its number", long16.taken(0), 1);
        due("again", long16.walk(), 1);
        due("how many still", long16.count(4), 1);
    }

    private static void taken() {
        sentence("22: taken: BAD: none such");
        due("ahead of walk()", words("a").taken(0), BAD);
        int count = rich().count(4);
        due("ab, abc, b", count, 3);
        for (int i : outside(0, count - 1)) {
            refused("taken(" + i + ")", "tape", x -> x.taken(i), BAD);
        }
        due("behind a walk() that took none", walked("z").taken(0), BAD);

        sentence("22: taken: as numbers were then");
        int[] then = {0, 1, 2};
        for (int i = 0; i < 3; i++) {
            due("taken(" + i + "), with aa ahead of them now", rich().taken(i), then[i]);
        }
        FuzzyWords x = rich();
        for (int i = 4; i >= 0; i--) {
            x.drop(i);
        }
        due("taken(2), with no words now", x.taken(2), 2);
        due("count(4)", x.count(4), 3);
    }

    private static FuzzyWords walked(String text) {
        FuzzyWords x = words("abc", "abd", "b", "bcd", "x");
        type(x, text);
        x.regular();
        x.walk();
        return x;
    }

    private static void steps() {
        sentence("23: steps: of the latest walk() (0)");
        due("ahead of walk()", words("a").steps(), 0);
        due("of a machine of nothing", walked("[^ -~]").steps(), 0);
        FuzzyWords none = grammar(".*");
        none.walk();
        due("of no words", none.steps(), 0);
        FuzzyWords x = walked("ab");
        type(x, "");
        x.regular();
        x.best(0);
        due("a later question is no walk()", x.steps(), 6);

        sentence("STEPS: beginnings (of 1 SIGN and more) whose beginning by one SIGN less has a STATE");
        due("the empty word: a, b, x", walked("").steps(), 3);
        due("a: a, ab, b, x", walked("a").steps(), 4);
        due("ab: a, ab, abc, abd, b, x", walked("ab").steps(), 6);
        due("abc: the same", walked("abc").steps(), 6);
        due("b: a, b, bc, x", walked("b").steps(), 4);
        due("all", walked(".*").steps(), 8);
        due("a word whose beginning is a word", walked("b|bcd").steps(), 5);
    }

    private static void best() {
        sentence("24: best: BAD: none such");
        for (int i : outside(0, 3)) {
            refused("best(" + i + ")", "tape", x -> x.best(i), BAD);
        }
        due("the last one", rich().best(3) == BAD ? 1 : 0, 0);
        due("of no words", grammar(".*").best(0), BAD);
        due("with a machine of nothing", words("a").best(0), BAD);
        FuzzyWords all = many(120, ".*");
        all.regular();
        due("the first of 120", all.best(0), 119);
        due("the last of 120", all.best(119), 0);
        due("one more", all.best(120), BAD);

        sentence("24: best: DISTANCE is 0 without a near()");
        FuzzyWords x = words("abc", "b", "zzzz");
        type(x, ".*");
        x.regular();
        due("the most used", x.best(0), 2);
        due("the next one", x.best(1), 1);
        type(x, "ab");
        due("a near() that is BAD is none", x.near(3, true, 0), BAD);
        due("the most used still", x.best(0), 2);
        near();
    }

    private static void near() {
        sentence("24: best: of the latest near() that went, with its SWAPS; USE (greater first); ORDER");
        FuzzyWords x = words("ba", "aa", "bb", "ab");
        // aa 1, ab 3, ba 0, bb 2
        type(x, "aa");
        x.near(0, true, 0);
        type(x, "ba");
        x.near(0, false, 0);
        type(x, "ab");
        x.near(0, true, 3);
        clearTape(x);
        due("it takes now what the latest one that went takes", x.best(0), 2);
        due("one word alone", x.best(1), BAD);
        type(x, ".*");
        x.regular();
        int[] far = {2, 3, 0, 1};
        for (int i = 0; i < 4; i++) {
            due("from ba without swaps: best(" + i + ")", x.best(i), far[i]);
        }
        type(x, "ba");
        x.near(0, true, 2);
        type(x, ".*");
        x.regular();
        int[] swapped = {2, 1, 3, 0};
        for (int i = 0; i < 4; i++) {
            due("from ba with swaps: best(" + i + ")", x.best(i), swapped[i]);
        }
        type(x, "bb");
        x.add(1);
        due("equal by use: the first by order", x.best(2), 0);
        due("then the other", x.best(3), 3);
    }

    private static void count() {
        sentence("25: count: BAD: another number");
        for (int what : outside(0, 4)) {
            refused("count(" + what + ")", "tape", x -> x.count(what), BAD);
        }
        int[] wants = {5, 8, 3, 4, 3};
        for (int what = 0; what <= 4; what++) {
            due("count(" + what + ")", rich("tape").count(what), wants[what]);
        }
    }

    public static void main(String[] args) {
        objects();
        feed();
        end();
        byteOf();
        signs();
        add();
        drop();
        word();
        distance();
        machines();
        keep();
        make();
        same();
        next();
        accepts();
        number();
        shortest();
        walk();
        taken();
        steps();
        best();
        count();
        reportSentences("BoundariesTest");
    }
}
