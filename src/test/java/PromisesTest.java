/** For each promise of the document: ordinary inputs, the edges that it names, wrong inputs. */
public final class PromisesTest extends Answers {
    private static void newObject() {
        FuzzyWords x = new FuzzyWords();
        for (int what = 0; what <= 4; what++) {
            due("count(" + what + ")", x.count(what), 0);
        }
        due("same()", x.same(), 1);
        due("place()", x.place(), NONE);
        due("accepts(0)", x.accepts(0), BAD);
        due("next(0, 97)", x.next(0, 97), BAD);
        due("number(0)", x.number(0), 0);
        due("shortest()", x.shortest(), NONE);
        due("steps()", x.steps(), 0);
        due("taken(0)", x.taken(0), BAD);
        due("best(0)", x.best(0), BAD);
        due("keep()", x.keep(), 0);
        due("make(0) of nothing", x.make(0), 0);
        due("make(3) of nothing", x.make(3), 1);
        due("BAD", FuzzyWords.BAD, -1);
        due("NONE", FuzzyWords.NONE, -2);
        due("FULL", FuzzyWords.FULL, -3);
        due("TOO_MANY", FuzzyWords.TOO_MANY, -4);
    }

    private static void feed() {
        FuzzyWords x = new FuzzyWords();
        due("feed", x.feed(0x01020304, 0x7F80FF00, -1, Integer.MIN_VALUE, Integer.MAX_VALUE), 20);
        int[] bytes = {1, 2, 3, 4, 127, 128, 255, 0, 255, 255, 255, 255, 128, 0, 0, 0, 127, 255, 255, 255};
        for (int i = 0; i < 20; i++) {
            due("byteOf(" + i + ")", x.byteOf(i), bytes[i]);
        }
        for (int i = 2; i <= 20; i++) {
            due("feed " + i, x.feed(i, i, i, i, i), 20 * i);
        }
        due("feed above 400", x.feed(1, 2, 3, 4, 5), FULL);
        due("the tape stays", x.count(3), 400);
        due("its last byte stays", x.byteOf(399), 20);
        x.end(1);
        due("381 and 20", x.feed(1, 2, 3, 4, 5), FULL);
        due("end(0) of 381", x.end(0), 361);
        due("361 and 20", x.feed(1, 2, 3, 4, 5), 381);
    }

    private static void end() {
        FuzzyWords x = new FuzzyWords();
        due("end(0) of nothing", x.end(0), BAD);
        type(x, "abcdefghijklmnopqrst");
        due("end(-1)", x.end(-1), BAD);
        due("end(21)", x.end(21), BAD);
        due("end(20)", x.end(20), 20);
        due("end(19)", x.end(19), 19);
        due("end(0) of nineteen", x.end(0), BAD);
        due("the tape stays", x.count(3), 19);
        type(x, "12345");
        dueText("the first stay", tape(x), "abcdefghijklmnopqrs12345");
        due("end(3)", x.end(3), 7);
        dueText("of the last twenty", tape(x), "abcdefg");
    }

    private static void byteOf() {
        FuzzyWords x = typed("ab~");
        due("byteOf(0)", x.byteOf(0), 'a');
        due("byteOf(2)", x.byteOf(2), '~');
        due("byteOf(3)", x.byteOf(3), BAD);
        due("byteOf(-1)", x.byteOf(-1), BAD);
        due("byteOf(MIN)", x.byteOf(Integer.MIN_VALUE), BAD);
        due("byteOf(MAX)", x.byteOf(Integer.MAX_VALUE), BAD);
    }

    private static void add() {
        FuzzyWords x = new FuzzyWords();
        due("add an empty tape", x.add(1), BAD);
        type(x, "b");
        due("add(-1)", x.add(-1), BAD);
        due("add(1000001)", x.add(1000001), BAD);
        due("the tape stays", x.count(3), 1);
        due("add(1000000)", x.add(1000000), 1);
        due("the tape is empty", x.count(3), 0);
        type(x, "b");
        due("add it again", x.add(0), 1);
        due("it has another use", x.word(0, -2), 0);
        due("the tape is empty", x.count(3), 0);
        type(x, "ba");
        due("add ba", x.add(3), 2);
        type(x, " ~");
        due("add ' ~'", x.add(4), 3);
        type(x, "abcdefghijklmnop");
        due("add 16 signs", x.add(5), 4);
        dueText("word 0", word(x, 0), " ~");
        dueText("word 1", word(x, 1), "abcdefghijklmnop");
        dueText("word 2", word(x, 2), "b");
        dueText("word 3", word(x, 3), "ba");
        type(x, "abcdefghijklmnopq");
        due("add 17 signs", x.add(5), BAD);
        due("the tape stays", x.count(3), 17);
        addWrongBytes();
        addTooMany();
    }

    private static void addWrongBytes() {
        for (int code : new int[] {0, 31, 127, 128, 255}) {
            FuzzyWords x = typed("a" + (char) code);
            due("add a byte " + code, x.add(1), BAD);
            due("the tape stays", x.count(3), 2);
        }
        due("add the lowest sign", typed("a ").add(1), 1);
        due("add the highest sign", typed("a~").add(1), 1);
    }

    private static void addTooMany() {
        FuzzyWords x = new FuzzyWords();
        for (int i = 0; i < 120; i++) {
            type(x, "w" + (char) ('A' + i % 12) + (char) ('a' + i / 12));
            due("add word " + i, x.add(i), i + 1);
        }
        type(x, "x");
        due("add one more", x.add(1), FULL);
        due("the tape stays", x.count(3), 1);
        due("add one more with no use", x.add(-1), BAD);
        clearTape(x);
        type(x, "wAa");
        due("add one that is there", x.add(77), 120);
        due("its use", x.word(0, -2), 77);
        due("drop", x.drop(119), 119);
        type(x, "zzz");
        due("there is room again", x.add(9), 120);
        dueText("it is the last one", word(x, 119), "zzz");
    }

    private static void drop() {
        FuzzyWords x = words("c", "a", "b");
        due("drop(-1)", x.drop(-1), BAD);
        due("drop(3)", x.drop(3), BAD);
        due("drop(1)", x.drop(1), 2);
        dueText("word 0", word(x, 0), "a");
        dueText("word 1", word(x, 1), "c");
        due("its use came along", x.word(1, -2), 0);
        due("the first one's use stays", x.word(0, -2), 1);
        due("drop(2)", x.drop(2), BAD);
        due("drop(0)", x.drop(0), 1);
        due("drop(0)", x.drop(0), 0);
        due("drop(0) of nothing", x.drop(0), BAD);
    }

    private static void word() {
        FuzzyWords x = words("hello", "abc");
        due("a sign", x.word(1, 1), 'e');
        due("the last sign", x.word(1, 4), 'o');
        due("behind it", x.word(1, 5), BAD);
        due("how many", x.word(0, -1), 3);
        due("its use", x.word(0, -2), 1);
        due("word(0, -3)", x.word(0, -3), BAD);
        due("word(0, MIN)", x.word(0, Integer.MIN_VALUE), BAD);
        due("word(0, MAX)", x.word(0, Integer.MAX_VALUE), BAD);
        due("word(2, 0)", x.word(2, 0), BAD);
        due("word(-1, -1)", x.word(-1, -1), BAD);
    }

    private static void distance() {
        FuzzyWords x = words("kitten", "sitting", "ab", "ba", "ca", "abc", "bca");
        // in order: ab abc ba bca ca kitten sitting
        due("kitten, sitting", x.distance(5, 6, false), 3);
        due("sitting, kitten", x.distance(6, 5, true), 3);
        due("a word and itself", x.distance(5, 5, true), 0);
        due("ab, ba", x.distance(0, 2, false), 2);
        due("ab, ba with swaps", x.distance(0, 2, true), 1);
        due("ca, abc: what is swapped is not edited else", x.distance(4, 1, true), 3);
        due("ca, abc without swaps", x.distance(4, 1, false), 3);
        due("abc, bca", x.distance(1, 3, true), 2);
        due("ab, abc", x.distance(0, 1, false), 1);
        due("no such first", x.distance(7, 0, true), BAD);
        due("no such second", x.distance(0, -1, true), BAD);
    }

    private static void near() {
        FuzzyWords x = typed("abc");
        due("near(-1)", x.near(-1, true, 0), BAD);
        due("near(3)", x.near(3, true, 0), BAD);
        due("held -1", x.near(1, true, -1), BAD);
        due("held 4", x.near(1, true, 4), BAD);
        due("the tape stays", x.count(3), 3);
        due("no edits", x.near(0, true, 0), 4);
        due("the tape is empty", x.count(3), 0);
        due("abc", takes(x, "abc"), 1);
        due("abd", takes(x, "abd"), 0);
        nearEdits();
        nearHeld();
        FuzzyWords empty = new FuzzyWords();
        due("near the empty word", empty.near(2, true, 0), 3);
        due("two signs", empty.number(2), 95 * 95);
        due("three signs", empty.number(3), 0);
        FuzzyWords wide = typed("abcdefghijklmnop");
        due("near 16 signs", wide.near(2, true, 0), 233);
        due("two swaps", takes(wide, "bacdefghijklmnpo"), 1);
        due("three swaps", takes(wide, "badcefghijklmnpo"), 0);
        due("17 signs", typed("abcdefghijklmnopq").near(1, true, 0), BAD);
        due("no sign", typed("ab\n").near(1, true, 0), BAD);
        due("held all", typed("abc").near(2, true, 3), 6);
    }

    private static void nearEdits() {
        for (int swaps = 0; swaps < 2; swaps++) {
            FuzzyWords x = typed("abca");
            x.near(1, swaps == 1, 0);
            String[] in = {"abca", "bca", "abc", "xabca", "abcax", "abxca", "abxa", "xbca"};
            String[] out = {"", "ab", "abcaxx", "cab", "bcaa a", "acbax"};
            for (String word : in) {
                due("near abca: " + word, takes(x, word), 1);
            }
            for (String word : out) {
                due("not near abca: " + word, takes(x, word), 0);
            }
            for (String word : new String[] {"baca", "acba", "abac"}) {
                due("swapped abca: " + word, takes(x, word), swaps);
            }
        }
        FuzzyWords x = typed("ca");
        x.near(2, true, 0);
        due("ca, abc: what is swapped is not edited else", takes(x, "abc"), 0);
        due("ca, ac", takes(x, "ac"), 1);
    }

    private static void nearHeld() {
        FuzzyWords x = typed("abcd");
        x.near(1, true, 2);
        due("held: abdc", takes(x, "abdc"), 1);
        due("held: abc", takes(x, "abc"), 1);
        due("held: abxcd", takes(x, "abxcd"), 1);
        due("held: acbd", takes(x, "acbd"), 0);
        due("held: axcd", takes(x, "axcd"), 0);
        due("held: xabcd", takes(x, "xabcd"), 0);
        due("held: bcd", takes(x, "bcd"), 0);
    }

    private static void wild() {
        FuzzyWords x = typed("a*b?");
        due("a*b?", x.wild(), 5);
        due("the tape is empty", x.count(3), 0);
        due("abc", takes(x, "abc"), 1);
        due("abbbb", takes(x, "abbbb"), 1);
        due("ab", takes(x, "ab"), 0);
        due("xabc", takes(x, "xabc"), 0);
        x = typed("\\*\\?\\\\\\a");
        due("plain signs", x.wild(), 5);
        due("*?\\a", takes(x, "*?\\a"), 1);
        due("xx\\a", takes(x, "xx\\a"), 0);
        due("nothing", new FuzzyWords().wild(), 1);
        due("any row", typed("*").wild(), 1);
        due("any row thrice", typed("***").wild(), 1);
        due("any sign", typed("?").wild(), 2);
        due("no sign", typed("a\t").wild(), BAD);
        due("too many", typed("*a??????????").wild(), TOO_MANY);
        due("256 states", typed("*a???????").wild(), 256);
        wildFaults();
    }

    private static void wildFaults() {
        FuzzyWords x = grammar("a");
        type(x, "ab\\");
        due("\\ at the end", x.wild(), -11);
        due("its place", x.place(), 3);
        due("the tape is empty", x.count(3), 0);
        due("what is at hand stays", x.count(1), 2);
        type(x, "\\\\");
        due("\\\\", x.wild(), 2);
        due("no fault now", x.place(), NONE);
        type(x, many("a", 40));
        due("40 signs", x.wild(), 41);
        type(x, many("a", 41));
        due("41 signs", x.wild(), -12);
        due("at 40", x.place(), 40);
        type(x, many("a", 40) + "\\");
        due("ahead of \\ at the end", x.wild(), -12);
        due("at 40", x.place(), 40);
        type(x, many("a", 41) + (char) 200);
        due("a byte that is no sign", x.wild(), BAD);
        due("the tape stays", x.count(3), 42);
        due("the place stays", x.place(), 40);
    }

    /** The text's machine, and words that it takes and does not take. */
    private static void language(String text, int states, String[] in, String[] out) {
        FuzzyWords x = typed(text);
        due(text, x.regular(), states);
        due(text + " has no fault", x.place(), NONE);
        due(text + " leaves no tape", x.count(3), 0);
        for (String word : in) {
            due(text + " takes " + word, takes(x, word), 1);
        }
        for (String word : out) {
            due(text + " does not take " + word, takes(x, word), 0);
        }
    }

    private static String[] list(String... words) {
        return words;
    }

    private static void regular() {
        language("", 1, list(""), list("a"));
        language("a|b|", 2, list("", "a", "b"), list("ab", "|"));
        language("(a|bc)*d", 3, list("d", "abcd", "bcaad"), list("", "bd", "abd"));
        language("a+b?", 3, list("a", "aab"), list("", "b", "abb"));
        language("(a?)+b", 2, list("b", "aab"), list("", "a"));
        language("a{2}", 3, list("aa"), list("a", "aaa"));
        language("a{2,4}", 5, list("aa", "aaaa"), list("a", "aaaaa"));
        language("a{2,}", 3, list("aa", "aaaaaaa"), list("a"));
        language("a{0,}", 1, list("", "aa"), list("b"));
        language("a{0}b{00}", 1, list(""), list("a", "b"));
        language("a{0,0}|c", 2, list("", "c"), list("a"));
        language("(ab){1,2}", 5, list("ab", "abab"), list("", "aba", "ababab"));
        language("(a?b?){2}", 5, list("", "ab", "ba", "abab", "bb"), list("aaa", "bab a", "ababa"));
        language(".", 2, list("a", " ", "~", "."), list("", "aa"));
        language("[a-c-]", 2, list("a", "b", "c", "-"), list("d", "]"));
        language("[a-c-e]", 2, list("a", "b", "c", "-", "e"), list("d"));
        language("[-a]", 2, list("-", "a"), list("b"));
        language("[^a-y]", 2, list("z", " ", "^"), list("a", "y"));
        language("[a^]", 2, list("a", "^"), list("b"));
        language("[^^]", 2, list("a"), list("^"));
        language("[\\]\\\\\\-]", 2, list("]", "\\", "-"), list("a"));
        language("[.*(|]", 2, list(".", "*", "(", "|"), list("a"));
        language("[\\a-\\c]", 2, list("b"), list("\\", "d"));
        language("\\.\\a", 3, list(".a"), list("xa"));
        language("a-b^,0 ", 8, list("a-b^,0 "), list("a"));
        language("[^ -~]", 0, list(), list("", "a"));
        language("[^ -~]|a", 2, list("a"), list(""));
        regularFaults();
        regularLimits();
    }

    private static void fault(String text, int kind, int place) {
        FuzzyWords x = grammar("abc");
        type(x, text);
        due(text, x.regular(), -10 - kind);
        due("its place", x.place(), place);
        due("the tape is empty", x.count(3), 0);
        due("what is at hand stays", x.count(1), 4);
    }

    private static void regularFaults() {
        fault("*a", 1, 0);
        fault("(+", 1, 1);
        fault("a|?", 1, 2);
        fault("{2}", 1, 0);
        fault("a}", 1, 1);
        fault("a]", 1, 1);
        fault("a)", 1, 1);
        fault("(a", 1, 2);
        fault("a\\", 1, 2);
        fault("[", 1, 1);
        fault("[^", 1, 2);
        fault("[]", 1, 1);
        fault("[^]", 1, 2);
        fault("[a", 1, 2);
        fault("[a-", 1, 3);
        fault("[a-]", 1, 3);
        fault("[a\\", 1, 3);
        fault("[b-a]", 1, 4);
        fault("[b-\\a]", 1, 5);
        fault("[ba-b--\\ ]", 1, 9);
        fault("a{", 1, 2);
        fault("a{}", 1, 2);
        fault("a{,2}", 1, 2);
        fault("a{2", 1, 3);
        fault("a{2,", 1, 4);
        fault("a{2,x}", 1, 4);
        fault("a{2x}", 1, 3);
        fault("a{21}", 1, 4);
        fault("a{99", 1, 4);
        fault("a{100}", 1, 4);
        fault("a{2,21}", 1, 6);
        fault("a{3,2}", 1, 5);
        fault("a{-1}", 1, 2);
        fault(many("(", 13) + many(")", 13), 2, 13);
        fault(many("(", 13), 2, 13);
        fault(many("(", 12), 1, 12);
        fault(many("()", 30) + many("(", 14), 2, 73);
    }

    private static void regularLimits() {
        due("12 deep", typed(many("(", 12) + "a" + many(")", 12)).regular(), 2);
        due("120 places", typed("a{20}{6}").regular(), 121);
        fault("a{20}{7}", 2, 8);
        fault("(ab{20}){6}c", 2, 11);
        fault("a{20,}{6}", 2, 9);
        fault("(aa){20}{3,}", 2, 12);
        fault("a{20}{6}b", 2, 9);
        fault("a{20}{6}b*", 2, 10);
        fault("a{20}{6}b)", 1, 9);
        fault(many("a", 121) + "(", 1, 122);
        due("places that are gone do not count", typed("(" + many("a", 150) + "){0}b").regular(), 2);
        due("nor behind 120", typed("a{20}{6}(bc){0}").regular(), 121);
        due("nor twice", typed("(a{20}{6}a{20}{6}){0}(b{20}{6}|c{20}){0}x{20}{6}").regular(), 121);
        fault("(" + many("a", 121) + "){1}", 2, 126);
        due("+ and * are of the same places", typed("(a{20}{6})+").regular(), 121);
        due("no places, however often", typed("()" + many("{20}", 49)).regular(), 1);
        due("200 signs", typed(many("[aa]", 50)).regular(), 51);
        fault(many("a", 200), 2, 200);
        fault(")" + many("a", 200), 2, 200);
        due("a byte that is no sign", typed(many("a", 201) + (char) 127).regular(), BAD);
        String sets = "0.*a.{6}|1.*a.{6}|2.*a.{6}|3.*a.{6}|4.*a.{6}|5.*a.{6}|6.*a.{6}|8.*a.{5}|9b{20}b";
        due("1,000 sets", typed(sets + "{9}").regular(), 223);
        due("1,001 sets", typed(sets + "{10}").regular(), TOO_MANY);
        due("300 states", typed("x.*a.{7}|yb{20}b{20}bb").regular(), 300);
        FuzzyWords x = grammar("a)");
        due("a fault", x.place(), 1);
        type(x, "x.*a.{7}|yb{20}b{20}bbb");
        due("301 states", x.regular(), TOO_MANY);
        due("no fault", x.place(), NONE);
        due("the tape is empty", x.count(3), 0);
        due("what is at hand stays", x.count(1), 0);
    }

    private static void range(String lower, String upper, int ins, String[] in, String[] out) {
        FuzzyWords x = typed(lower + upper);
        x.between(lower.length(), (ins & 1) != 0, (ins & 2) != 0);
        due("the tape is empty", x.count(3), 0);
        String told = lower + " .. " + upper + " (" + ins + ") ";
        for (String word : in) {
            due(told + word, takes(x, word), 1);
        }
        for (String word : out) {
            due(told + word, takes(x, word), 0);
        }
    }

    private static void between() {
        range("abc", "b", 0, list("abca", "abd", "az", "abc "), list("abc", "b", "ab", "a", "", "ba", "c"));
        range("abc", "b", 1, list("abc", "abcz"), list("b", "abb"));
        range("abc", "b", 2, list("b", "ac"), list("abc", "b "));
        range("abc", "b", 3, list("b", "abc"), list("b ", "abb~"));
        range("ab", "abcd", 3, list("ab", "abc", "abcd", "abcc", "ab "), list("abd", "abcd ", "a"));
        range("ab", "abcd", 0, list("abc", "abcc", "ab "), list("ab", "abcd", "a"));
        range("", "", 3, list(""), list("a", " "));
        range("", "", 1, list(), list("", "a"));
        range("", "b", 0, list("a", "a~~"), list("", "b"));
        range("x", "x", 3, list("x"), list("", "x ", "w"));
        due("two words that are out of order", typed("ba").between(1, true, true), 0);
        due("one word, in", typed("aa").between(1, true, true), 2);
        due("one word, in one way", typed("aa").between(1, true, false), 0);
        due("a .. b", typed("ab").between(1, true, true), 3);
        FuzzyWords x = typed(many("ab", 16));
        due("16 signs each, but 15", x.between(15, true, true), BAD);
        due("the tape stays", x.count(3), 32);
        due("16 signs each", x.between(16, true, true), 17);
        due("n -1", typed("ab").between(-1, true, true), BAD);
        due("n above all", typed("ab").between(3, true, true), BAD);
        due("the lower one too long", typed(many("a", 17)).between(17, true, true), BAD);
        due("the upper one too long", typed(many("a", 17)).between(0, true, true), BAD);
        due("no sign", typed("a" + (char) 31).between(1, true, true), BAD);
    }

    private static void place() {
        FuzzyWords x = new FuzzyWords();
        due("none yet", x.place(), NONE);
        type(x, "ab(");
        x.regular();
        due("of a regular()", x.place(), 3);
        type(x, "a");
        x.near(1, true, 0);
        type(x, "ab");
        x.between(1, true, true);
        x.make(3);
        due("others leave it", x.place(), 3);
        type(x, "a" + (char) 1);
        x.regular();
        x.wild();
        due("BAD leaves it", x.place(), 3);
        due("the tape stays", x.count(3), 2);
        FuzzyWords y = typed("\\");
        y.wild();
        due("of a wild()", y.place(), 1);
        type(y, "a");
        y.regular();
        due("none now", y.place(), NONE);
    }

    private static void keep() {
        FuzzyWords x = grammar("ab");
        due("another is of nothing", x.count(2), 0);
        due("keep()", x.keep(), 3);
        due("both are there", x.count(1) * 10 + x.count(2), 33);
        due("same()", x.same(), 1);
        type(x, "a*");
        x.regular();
        due("the kept one stays", x.count(2), 3);
        due("same()", x.same(), 0);
        due("keep()", x.keep(), 1);
        due("same()", x.same(), 1);
    }

    private static FuzzyWords two(String hand, String another) {
        FuzzyWords x = grammar(another);
        x.keep();
        type(x, hand);
        x.regular();
        return x;
    }

    private static void make() {
        String[] words = {"", "a", "b", "aa", "ab", "ba", "bb", "c"};
        int[] hand = {0, 1, 0, 1, 1, 0, 0, 0};
        int[] another = {0, 0, 1, 0, 1, 0, 1, 0};
        for (int what = 0; what < 4; what++) {
            FuzzyWords x = two("a[ab]*", "[ab]*b");
            x.make(what);
            for (int i = 0; i < words.length; i++) {
                int[] wants = {hand[i] | another[i], hand[i] & another[i], hand[i] & ~another[i], 1 - hand[i]};
                due("make(" + what + "): " + words[i], takes(x, words[i]), wants[what]);
            }
        }
        due("joined", two("a", "b").make(0), 2);
        due("met", two("a", "b").make(1), 0);
        due("without", two("a", "a|b").make(2), 0);
        due("turned", two(".*", "").make(3), 0);
        FuzzyWords x = two("ab", "ab");
        due("make(4)", x.make(4), BAD);
        due("make(-1)", x.make(-1), BAD);
        due("both stay", x.count(1) * 10 + x.count(2), 33);
        due("turned", x.make(3), 4);
        due("turned again", x.make(3), 3);
        due("same()", x.same(), 1);
        makeTooMany();
    }

    private static void makeTooMany() {
        due("2,000 pairs", two("(a{11}{4})*c", "(a{15}{3})*b|d{17}").make(1), 0);
        FuzzyWords x = two("(a{11}{4})*c", "(a{15}{3})*b|d{18}");
        due("2,001 pairs", x.make(1), TOO_MANY);
        due("what is at hand stays", x.count(1), 45);
        due("another, too", x.count(2), 64);
        FuzzyWords y = grammar("x.*a.{7}|yb{20}b{20}bb");
        due("one state more than 300", y.make(3), TOO_MANY);
        due("what is at hand stays", y.count(1), 300);
        FuzzyWords z = two("x.*a.{7}", "(yb{20}b{20}bb)");
        due("300 of two", z.make(0), 300);
        due("more than 300 of two", two("x.*a.{7}", "(yb{20}b{20}bbb)").make(0), TOO_MANY);
    }

    private static void same() {
        due("the same words", two("a|ab|abb", "ab{0,2}").same(), 1);
        due("other words", two("a|ab|abb", "ab{0,3}").same(), 0);
        due("as many states, other signs", two("a", "b").same(), 0);
        due("as many states, other ends", two("a?b", "ab?").same(), 0);
        due("nothing and nothing", two("[^ -~]", "[^ -~]a").same(), 1);
        due("nothing and the empty word", two("[^ -~]", "").same(), 0);
        FuzzyWords x = typed("a?c*");
        x.wild();
        x.keep();
        type(x, "a.c.*");
        x.regular();
        due("asked in two ways", x.same(), 1);
    }

    private static void next() {
        FuzzyWords x = grammar("b|ac|[ -!]d");
        // 0 by ' ' and !: 1, by a: 2, by b: 3
        due("next(0, ' ')", x.next(0, ' '), 1);
        due("next(0, !)", x.next(0, '!'), 1);
        due("next(0, a)", x.next(0, 'a'), 2);
        due("next(0, b)", x.next(0, 'b'), 3);
        due("next(1, d)", x.next(1, 'd'), 3);
        due("next(2, c)", x.next(2, 'c'), 3);
        due("next(0, ~)", x.next(0, '~'), NONE);
        due("next(3, a)", x.next(3, 'a'), NONE);
        due("next(4, a)", x.next(4, 'a'), BAD);
        due("next(-1, a)", x.next(-1, 'a'), BAD);
        due("next(0, 31)", x.next(0, 31), BAD);
        due("next(0, 127)", x.next(0, 127), BAD);
        due("next(0, 32)", x.next(0, 32), 1);
        due("next(0, 126)", x.next(0, 126), NONE);
    }

    private static void accepts() {
        FuzzyWords x = grammar("a(bc)?");
        due("accepts(0)", x.accepts(0), 0);
        due("accepts(1)", x.accepts(1), 1);
        due("accepts(2)", x.accepts(2), 0);
        due("accepts(3)", x.accepts(3), 1);
        due("accepts(4)", x.accepts(4), BAD);
        due("accepts(-1)", x.accepts(-1), BAD);
    }

    private static void number() {
        FuzzyWords x = grammar(".*");
        long all = 1;
        for (int length = 0; length <= 8; length++) {
            due("all of " + length, x.number(length), all);
            all *= 95;
        }
        due("number(9)", x.number(9), BAD);
        due("number(-1)", x.number(-1), BAD);
        FuzzyWords y = grammar("([a-c]x){0,3}");
        long[] wants = {1, 0, 3, 0, 9, 0, 27, 0, 0};
        for (int length = 0; length <= 8; length++) {
            due("of " + length, y.number(length), wants[length]);
        }
        due("of nothing", new FuzzyWords().number(3), 0);
    }

    private static void shortest() {
        FuzzyWords x = grammar("zz|ab*c|[b-d]x");
        type(x, "old");
        due("shortest()", x.shortest(), 2);
        dueText("the first of them", tape(x), "ac");
        FuzzyWords y = grammar("[b-d]x|abb|e[^ -~]");
        due("shortest()", y.shortest(), 2);
        dueText("shorter ones come first", tape(y), "bx");
        FuzzyWords z = grammar("a*");
        type(z, "old");
        due("the empty word", z.shortest(), 0);
        due("the tape is empty", z.count(3), 0);
        FuzzyWords n = new FuzzyWords();
        type(n, "old");
        due("nothing", n.shortest(), NONE);
        due("the tape stays", n.count(3), 3);
        FuzzyWords w = grammar("(.{20}){6}");
        due("a long one", w.shortest(), 120);
        dueText("of the lowest sign", tape(w), many(" ", 120));
        due("it is the tape", w.feed(0, 0, 0, 0, 0), 140);
    }

    private static void walk() {
        FuzzyWords x = words("ab", "abc", "b", "bca", "c");
        type(x, "ab*c*");
        x.regular();
        due("walk()", x.walk(), 2);
        due("count(4)", x.count(4), 2);
        due("taken(0)", x.taken(0), 0);
        due("taken(1)", x.taken(1), 1);
        type(x, ".*");
        x.regular();
        due("walk()", x.walk(), 5);
        FuzzyWords y = words("a");
        due("with a machine of nothing", y.walk(), 0);
        due("its steps", y.steps(), 0);
        FuzzyWords z = grammar("a");
        due("of no words", z.walk(), 0);
    }

    private static void taken() {
        FuzzyWords x = words("a", "b", "c", "d");
        due("ahead of a walk()", x.taken(0), BAD);
        type(x, "b|d");
        x.regular();
        due("ahead of a walk(), still", x.taken(0), BAD);
        x.walk();
        due("taken(0)", x.taken(0), 1);
        due("taken(1)", x.taken(1), 3);
        due("taken(2)", x.taken(2), BAD);
        due("taken(-1)", x.taken(-1), BAD);
        x.drop(0);
        type(x, "a");
        x.regular();
        x.best(0);
        due("as numbers were then", x.taken(1), 3);
        due("count(4), too", x.count(4), 2);
        due("walk()", x.walk(), 0);
        due("taken(0)", x.taken(0), BAD);
    }

    private static void steps() {
        FuzzyWords x = words("abc", "abd", "b", "bcd", "x");
        due("ahead of a walk()", x.steps(), 0);
        type(x, "ab");
        x.regular();
        due("ahead of a walk(), still", x.steps(), 0);
        x.walk();
        // a, ab, abc, abd, b, x: what is behind b and x has no state ahead of it
        due("ab", x.steps(), 6);
        type(x, ".*");
        x.regular();
        due("of the latest walk()", x.steps(), 6);
        x.best(0);
        due("best() is none", x.steps(), 6);
        x.walk();
        due("all beginnings", x.steps(), 8);
        type(x, "");
        x.regular();
        x.walk();
        due("the empty word", x.steps(), 3);
        type(x, "[^ -~]");
        x.regular();
        x.walk();
        due("nothing", x.steps(), 0);
    }

    private static void best() {
        FuzzyWords x = words("ba", "ab", "abc", "b", "xyz");
        // ab 1, abc 2, b 3, ba 0, xyz 4
        type(x, ".*");
        x.regular();
        int[] byUse = {4, 2, 1, 0, 3};
        for (int i = 0; i < 5; i++) {
            due("without a near(): best(" + i + ")", x.best(i), byUse[i]);
        }
        due("best(5)", x.best(5), BAD);
        due("best(-1)", x.best(-1), BAD);
        type(x, "ab");
        x.near(1, true, 0);
        int[] near = {0, 2, 1, 3, BAD};
        for (int i = 0; i < 5; i++) {
            due("near ab: best(" + i + ")", x.best(i), near[i]);
        }
        type(x, ".*");
        x.regular();
        int[] all = {0, 2, 1, 3, 4};
        for (int i = 0; i < 5; i++) {
            due("the latest near() still counts: best(" + i + ")", x.best(i), all[i]);
        }
        bestWithoutSwaps(x);
    }

    private static void bestWithoutSwaps(FuzzyWords x) {
        type(x, "ba");
        x.add(9);
        due("swapped, and most used", x.best(1), 3);
        type(x, "ab");
        x.near(0, false, 0);
        type(x, "x");
        due("a near() that is BAD", x.near(3, true, 0), BAD);
        clearTape(x);
        type(x, ".*");
        x.regular();
        // ba is 2 from ab without swaps
        int[] wants = {0, 2, 1, 3, 4};
        for (int i = 0; i < 5; i++) {
            due("without swaps: best(" + i + ")", x.best(i), wants[i]);
        }
        type(x, "ab");
        x.add(0);
        type(x, "aa");
        x.add(9);
        due("ab is the nearest", x.best(0), 1);
        due("aa is now the first number", x.best(1), 0);
        type(x, "bb");
        x.add(9);
        due("equal in all: by order", x.best(1), 0);
        due("the second of them", x.best(2), 5);
        x.drop(1);
        due("numbers of now", x.best(1), 4);
    }

    private static void count() {
        FuzzyWords x = words("a", "b", "c");
        type(x, "ab");
        x.regular();
        x.keep();
        type(x, "[ab]");
        x.regular();
        x.walk();
        type(x, "tape");
        int[] wants = {3, 2, 3, 4, 2};
        for (int what = 0; what <= 4; what++) {
            due("count(" + what + ")", x.count(what), wants[what]);
        }
        due("count(5)", x.count(5), BAD);
        due("count(-1)", x.count(-1), BAD);
    }

    private static void run(int number) {
        about = "promise " + number;
        switch (number) {
            case 1: newObject(); break;
            case 2: feed(); break;
            case 3: end(); break;
            case 4: byteOf(); break;
            case 5: add(); break;
            case 6: drop(); break;
            case 7: word(); break;
            case 8: distance(); break;
            case 9: near(); break;
            case 10: wild(); break;
            case 11: regular(); break;
            case 12: between(); break;
            case 13: place(); break;
            case 14: keep(); break;
            case 15: make(); break;
            case 16: same(); break;
            case 17: next(); break;
            case 18: accepts(); break;
            case 19: number(); break;
            case 20: shortest(); break;
            case 21: walk(); break;
            case 22: taken(); break;
            case 23: steps(); break;
            case 24: best(); break;
            default: count(); break;
        }
    }

    public static void main(String[] args) {
        for (int number = 1; number <= 25; number++) {
            run(number);
        }
        report("PromisesTest");
    }
}
