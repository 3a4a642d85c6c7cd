import java.util.function.ToLongFunction;

/** Sentences of the document that name a boundary: questions, their faults, and too many sets, states, pairs. */
public final class QuestionBoundariesTest extends Boundaries {
    private static final ToLongFunction<FuzzyWords> WILD = FuzzyWords::wild;
    private static final ToLongFunction<FuzzyWords> REGULAR = FuzzyWords::regular;
    private static final int WRONG = -11, TOO_LARGE = -12;
    /** With {9} behind it a grammar of 1,000 sets, the empty one among them, with {10} of 1,001. */
    private static final String SETS =
        "0.*a.{6}|1.*a.{6}|2.*a.{6}|3.*a.{6}|4.*a.{6}|5.*a.{6}|6.*a.{6}|8.*a.{5}|9b{20}b";

    private static ToLongFunction<FuzzyWords> near(int e, boolean swaps, int p) {
        return x -> x.near(e, swaps, p);
    }

    private static ToLongFunction<FuzzyWords> between(int n, boolean lowerIn, boolean upperIn) {
        return x -> x.between(n, lowerIn, upperIn);
    }

    private static void signs() {
        sentence("9 - 12: BAD: a byte that is no SIGN (the tape stays)");
        for (int code : NO_SIGNS) {
            for (String text : new String[] {(char) code + "b", "b" + (char) code}) {
                refused("near, " + code, text, near(1, true, 0), BAD);
                refused("wild, " + code, text, WILD, BAD);
                refused("regular, " + code, text, REGULAR, BAD);
                refused("between, " + code, text, between(1, true, true), BAD);
            }
        }
        for (String text : new String[] {" ~", "~ "}) {
            went(text, near(0, true, 0), 3);
            went(text, WILD, 3);
            went(text, REGULAR, 3);
        }
        went(" ~", between(1, true, true), 3);
        went("~ ", between(1, true, true), 0);
        refused("no sign ahead of a fault", "(\t", REGULAR, BAD);
        refused("no sign behind 200", many("a", 201) + (char) 127, REGULAR, BAD);
        refused("no sign behind 40", many("a", 41) + (char) 31, WILD, BAD);
    }

    private static void nearWords() {
        sentence("NEAR: a word of n SIGNS (0 .. 16)");
        went("", near(2, true, 0), 3);
        went(many("a", 16), near(0, true, 0), 17);
        went("abcdefghijklmnop", near(2, true, 0), 233);
        refused("near(0)", many("a", 17), near(0, true, 0), BAD);
        refused("near(0)", many("a", 20), near(0, true, 0), BAD);
        refused("near(0)", many("a", 400), near(0, true, 0), BAD);

        sentence("NEAR: EDITS e (0 .. 2)");
        for (int e : outside(0, 2)) {
            refused("near(" + e + ")", "abc", near(e, true, 0), BAD);
        }
        int[] longest = {3, 4, 5};
        for (int e = 0; e <= 2; e++) {
            FuzzyWords x = rich("abc");
            x.near(e, false, 0);
            due("longest by " + e, x.number(longest[e]) > 0 ? 1 : 0, 1);
            due("longer by " + e, x.number(longest[e] + 1), 0);
            due("shortest by " + e, x.shortest(), 3 - e);
        }

        sentence("NEAR: a BEGINNING of p SIGNS (0 .. n)");
        for (int p : outside(0, 3)) {
            refused("p " + p, "abc", near(1, true, p), BAD);
        }
        refused("p 1", "", near(1, true, 1), BAD);
        refused("p 17", many("a", 16), near(1, true, 17), BAD);
        went(many("a", 16), near(1, true, 16), 18);
        went("abc", near(1, true, 3), 5);
        went("abc", near(0, true, 3), 4);
    }

    private static void nearEdges() {
        sentence("NEAR: edited, if i is p or more");
        FuzzyWords x = rich("abcd");
        x.near(1, true, 2);
        due("sign p is another", takes(x, "abxd"), 1);
        due("the sign ahead of it", takes(x, "axcd"), 0);
        due("one more at p", takes(x, "abxcd"), 1);
        due("one more ahead of it", takes(x, "axbcd"), 0);
        due("sign p is less", takes(x, "abd"), 1);
        due("the sign ahead of it is less", takes(x, "acd"), 0);
        due("p and the next one swapped", takes(x, "abdc"), 1);
        due("p and the one ahead of it swapped", takes(x, "acbd"), 0);
        FuzzyWords all = rich("ab");
        all.near(2, true, 2);
        due("behind all that is held", takes(all, "abxy"), 1);
        due("three behind it", takes(all, "abxyz"), 0);
        due("less than is held", takes(all, "a"), 0);

        sentence("NEAR: edited, if d is below e");
        FuzzyWords two = rich("abcdef");
        two.near(2, true, 0);
        due("two others", takes(two, "xbxdef"), 1);
        due("three others", takes(two, "xbxdex"), 0);
        due("two less", takes(two, "cdef"), 1);
        due("three less", takes(two, "def"), 0);
        due("two more", takes(two, "xabcdefx"), 1);
        due("three more", takes(two, "xxabcdefx"), 0);
        due("two swaps", takes(two, "bacdfe"), 1);
        due("three swaps", takes(two, "badcfe"), 0);

        sentence("NEAR: a swap, if i + 1 is below n");
        FuzzyWords pair = rich("ab");
        pair.near(1, true, 0);
        due("both", takes(pair, "ba"), 1);
        due("in the midst of it", takes(pair, "b"), 1);
        due("with one more", takes(pair, "bax"), 0);
        FuzzyWords without = rich("ab");
        without.near(1, false, 0);
        due("without SWAPS", takes(without, "ba"), 0);
        FuzzyWords one = rich("a");
        one.near(1, true, 0);
        due("of one sign", takes(one, "ba"), 1);
        due("nothing to swap with", one.number(2), 189);
        FuzzyWords edited = rich("ca");
        edited.near(2, true, 0);
        due("what is swapped is not edited else", takes(edited, "abc"), 0);
    }

    private static void wild() {
        sentence("WILD: more than 40 SIGNS: FAULT 2, at 40");
        went(many("a", 40), WILD, 41);
        went(many("\\*", 20), WILD, 21);
        went(many("*", 40), WILD, 1);
        went(many("?", 40), WILD, 41);
        went(many("?", 39) + "*", WILD, 40);
        stopped(many("a", 41), WILD, TOO_LARGE, 40);
        stopped(many("*", 400), WILD, TOO_LARGE, 40);

        sentence("WILD: \\ at the end: FAULT 1, at the end");
        stopped("\\", WILD, WRONG, 1);
        stopped("ab\\", WILD, WRONG, 3);
        stopped("\\\\\\", WILD, WRONG, 3);
        stopped(many("a", 39) + "\\", WILD, WRONG, 40);
        went("\\\\", WILD, 2);
        went("\\a", WILD, 2);
        went("\\ab", WILD, 3);

        sentence("WILD: FAULT 2 ahead of the other one");
        stopped(many("a", 40) + "\\", WILD, TOO_LARGE, 40);
        stopped(many("a", 44) + "\\", WILD, TOO_LARGE, 40);
        stopped("\\" + many("a", 40), WILD, TOO_LARGE, 40);

        sentence("WILD: * any row, ? any SIGN, \\ and a SIGN: that one");
        FuzzyWords none = went("", WILD, 1);
        due("the empty row", takes(none, ""), 1);
        due("of nothing else", none.number(1), 0);
        FuzzyWords star = went("a*b", WILD, 3);
        due("the empty row", takes(star, "ab"), 1);
        due("a row", takes(star, "a ~bb"), 1);
        due("nothing behind it", takes(star, "aba"), 0);
        FuzzyWords sign = went("a?", WILD, 3);
        due("the lowest", takes(sign, "a "), 1);
        due("the highest", takes(sign, "a~"), 1);
        due("none", takes(sign, "a"), 0);
        due("two", takes(sign, "abc"), 0);
        FuzzyWords plain = went("\\*\\?\\\\", WILD, 4);
        due("these", takes(plain, "*?\\"), 1);
        due("others", plain.number(3), 1);
    }

    private static void ranges() {
        sentence("12: between: BAD: n not 0 .. all");
        for (int n : outside(0, 2)) {
            refused("between(" + n + ")", "ab", between(n, true, true), BAD);
        }
        went("ab", between(0, true, true), 4);
        went("ab", between(2, true, true), 0);
        went("", between(0, true, true), 1);
        refused("between(1)", "", between(1, true, true), BAD);

        sentence("12: between: BAD: a word too long (16 at most each)");
        String words = many("a", 16) + many("b", 16);
        went(words, between(16, false, true), 34);
        went(words, between(16, true, false), 32);
        went(many("a", 16), between(16, true, true), 0);
        went(many("a", 16), between(0, true, true), 18);
        refused("17 and 15", words, between(17, true, true), BAD);
        refused("15 and 17", words, between(15, true, true), BAD);
        refused("16 and 17", words + "b", between(16, true, true), BAD);
        refused("17 and 16", words + "b", between(17, true, true), BAD);
        refused("17 and 0", many("a", 17), between(17, true, true), BAD);
        refused("0 and 17", many("a", 17), between(0, true, true), BAD);

        sentence("BETWEEN: by ORDER: the neighbours of the first SIGNS");
        FuzzyWords x = rich("by");
        x.between(1, true, true);
        due("ahead of the lower one", takes(x, "a~"), 0);
        due("behind the lower one", takes(x, "b "), 1);
        due("the next sign", takes(x, "c"), 1);
        due("ahead of the upper one", takes(x, "x~"), 1);
        due("behind the upper one", takes(x, "y "), 0);
        due("the sign behind it", takes(x, "z"), 0);
        due("words of one sign", x.number(1), 24);

        sentence("BETWEEN: by ORDER, each itself in or not");
        for (int ins = 0; ins < 4; ins++) {
            FuzzyWords two = rich("abac");
            two.between(2, (ins & 1) != 0, (ins & 2) != 0);
            due("the lower one, " + ins, takes(two, "ab"), ins & 1);
            due("the upper one, " + ins, takes(two, "ac"), ins >> 1);
            due("right behind the lower one", takes(two, "ab "), 1);
            due("right ahead of the upper one", takes(two, "ab~~~~"), 1);
            due("right ahead of the lower one", takes(two, "aa~~~~"), 0);
            due("its beginning", takes(two, "a"), 0);
            due("right behind the upper one", takes(two, "ac "), 0);
            FuzzyWords same = rich("abab");
            due("twice one word, " + ins, same.between(2, (ins & 1) != 0, (ins & 2) != 0), ins == 3 ? 3 : 0);
            FuzzyWords turned = rich("acab");
            due("out of order, " + ins, turned.between(2, (ins & 1) != 0, (ins & 2) != 0), 0);
            FuzzyWords beginning = rich("aab");
            beginning.between(1, (ins & 1) != 0, (ins & 2) != 0);
            due("the lower one is the beginning", takes(beginning, "a"), ins & 1);
            due("behind it", takes(beginning, "aa"), 1);
            due("the upper one", takes(beginning, "ab"), ins >> 1);
        }
    }

    private static void place() {
        sentence("13: place: NONE: there was none yet");
        due("of a new object", new FuzzyWords().place(), NONE);
        FuzzyWords bad = typed("a\t");
        bad.regular();
        bad.wild();
        due("behind BAD alone", bad.place(), NONE);
        FuzzyWords others = typed("ab");
        others.near(1, true, 0);
        others.between(0, true, true);
        others.make(3);
        due("behind other questions", others.place(), NONE);

        sentence("13: place: NONE: it had none");
        FuzzyWords x = went("a", REGULAR, 2);
        due("behind a regular() that went", x.place(), NONE);
        FuzzyWords y = went("a", WILD, 2);
        due("behind a wild() that went", y.place(), NONE);
        FuzzyWords z = rich(".*a.{9}");
        due("too many", z.regular(), TOO_MANY);
        due("behind TOO_MANY", z.place(), NONE);
        type(z, "*a?????????");
        due("too many", z.wild(), TOO_MANY);
        due("behind TOO_MANY", z.place(), NONE);

        sentence("13: place: of the latest regular() or wild() that was not BAD");
        FuzzyWords latest = typed(")");
        latest.regular();
        due("at 0", latest.place(), 0);
        type(latest, "ab\\");
        latest.wild();
        due("of wild()", latest.place(), 3);
        type(latest, "abc(");
        latest.regular();
        due("of regular()", latest.place(), 4);
        type(latest, "\t");
        latest.regular();
        latest.wild();
        due("BAD leaves it", latest.place(), 4);
        latest.near(1, true, 0);
        latest.between(0, true, true);
        due("so do other questions", latest.place(), 4);
    }

    private static void sets() {
        sentence("more than 1,000 SETS: TOO_MANY; what is at hand stays, the tape is empty");
        went(SETS + "{9}", REGULAR, 223);
        stopped(SETS + "{10}", REGULAR, TOO_MANY, NONE);
        went(many("b", 10) + "*b?ab??????a*a?????*", WILD, 71);
        stopped(many("b", 11) + "*b?ab??????a*a?????*", WILD, TOO_MANY, NONE);

        sentence("SETS: the one with nothing in it is one, if it is come to");
        went(SETS + "{9}|.*", REGULAR, 1);
        stopped(SETS + "{10}|.*", REGULAR, TOO_MANY, NONE);
        went(many("?", 11) + "*b?ab??????a*a?????*", WILD, 72);
        stopped(many("?", 12) + "*b?ab??????a*a?????*", WILD, TOO_MANY, NONE);

        sentence("more than 300 STATES: TOO_MANY; what is at hand stays, the tape is empty");
        went("x.*a.{7}|yb{20}b{20}bb", REGULAR, 300);
        stopped("x.*a.{7}|yb{20}b{20}bbb", REGULAR, TOO_MANY, NONE);
        went(many("b", 6) + "*a?????a??b?", WILD, 300);
        stopped(many("b", 7) + "*a?????a??b?", WILD, TOO_MANY, NONE);
        went("~~~~~~*a?????a??b?", WILD, 300);
    }

    /** What was too many leaves nothing that a later question or make() could stumble over. */
    private static void behindTooMany() {
        sentence("what is at hand stays then, and later questions go as ever");
        for (String first : new String[] {".*a.{8}", ".*a.{9}", "x.*a.{7}|yb{20}b{20}bbb", SETS + "{10}"}) {
            goOnBehind(first, REGULAR);
        }
        for (String first : new String[] {"*a?bab?a?????a????c?", "x*bbb?????????caa?", "*b???????ba"}) {
            goOnBehind(first, WILD);
        }
    }

    private static void goOnBehind(String first, ToLongFunction<FuzzyWords> question) {
        String[] fine = {".*a.{7}", "x.*a.{7}|yb{20}b{20}bb", "(a|bc)*d", SETS + "{9}", "a{20}{6}", ""};
        int[] states = {256, 300, 3, 223, 121, 1};
        for (int i = 0; i < fine.length; i++) {
            FuzzyWords x = rich(first);
            due(first, question.applyAsLong(x), TOO_MANY);
            type(x, fine[i]);
            due(fine[i] + " behind " + first, x.regular(), states[i]);
            x.keep();
            type(x, first);
            due(first, question.applyAsLong(x), TOO_MANY);
            due(first + ": what was kept is at hand still", x.same(), 1);
            due(first + ": make(0) of it and itself", x.make(0), states[i]);
        }
    }

    private static void pairs() {
        String hand = "(a{11}{4})*c";
        String another = "(a{15}{3})*b|d";
        sentence("JOINED: more than 2,000 pairs: TOO_MANY (what is at hand stays)");
        due("2,000 that have a state", turned(hand, another + "{17}").make(0), 1);
        leaves("2,001 that have a state", () -> turned(hand, another + "{18}"), x -> x.make(0), TOO_MANY);

        sentence("JOINED: (none, none) is a pair, too");
        String wide = "a*b|(a{11}{4})*aa{0,14}{3}c";
        String other = "a*c|(a{15}{3})*aa{0,20}{2}a?a?a?b|d";
        due("2,000 with it", two(wide, other + "{16}").make(0), 18);
        leaves("2,001 with it", () -> two(wide, other + "{17}"), x -> x.make(0), TOO_MANY);

        sentence("MET: more than 2,000 pairs, (none, none) too: TOO_MANY (what is at hand stays)");
        due("2,000", two(hand, another + "{17}").make(1), 0);
        leaves("2,001", () -> two(hand, another + "{18}"), x -> x.make(1), TOO_MANY);

        sentence("WITHOUT: more than 2,000 pairs, (none, none) too: TOO_MANY (what is at hand stays)");
        due("2,000", two(hand, another + "{17}").make(2), 45);
        leaves("2,001", () -> two(hand, another + "{18}"), x -> x.make(2), TOO_MANY);
    }

    private static FuzzyWords two(String hand, String another) {
        FuzzyWords x = rich(another);
        x.regular();
        x.keep();
        type(x, hand);
        x.regular();
        return x;
    }

    /** Both take what their grammar does not take. */
    private static FuzzyWords turned(String hand, String another) {
        FuzzyWords x = rich(another);
        x.regular();
        x.make(3);
        x.keep();
        type(x, hand);
        x.regular();
        x.make(3);
        return x;
    }

    /** ANOTHER takes what its grammar does not take. */
    private static FuzzyWords turnedAnother(String hand, String another) {
        FuzzyWords x = rich(another);
        x.regular();
        x.make(3);
        x.keep();
        type(x, hand);
        x.regular();
        return x;
    }

    private static void statesOfPairs() {
        String of13 = "(a{13})*", of23 = "(a{20}aaa)+", of7 = "(a{7})*", of43 = "(a{20}{2}aaa)*";
        sentence("15: make: more than 300 STATES: TOO_MANY (what is at hand stays)");
        due("300 JOINED", two("x.*a.{7}", "yb{20}b{20}bb").make(0), 300);
        leaves("301 JOINED", () -> two("x.*a.{7}", "yb{20}b{20}bbb"), x -> x.make(0), TOO_MANY);
        due("300 MET", two(of23, of13).make(1), 300);
        leaves("301 MET", () -> two(of43, of7), x -> x.make(1), TOO_MANY);
        due("300 WITHOUT", turnedAnother(of23, of13).make(2), 300);
        leaves("301 WITHOUT", () -> turnedAnother(of43, of7), x -> x.make(2), TOO_MANY);
        due("299 and one more, TURNED", rich299("bb").make(3), 300);
        leaves("300 and one more, TURNED", () -> rich299("bbb"), x -> x.make(3), TOO_MANY);
        FuzzyWords x = rich299("bb");
        x.make(3);
        due("300 that have all steps, TURNED", x.make(3), 299);
    }

    /** 299 states with bb, 300 with bbb. */
    private static FuzzyWords rich299(String tail) {
        FuzzyWords x = rich("x.*a.{7}|yb{20}b{19}" + tail);
        x.regular();
        return x;
    }

    private static void texts() {
        sentence("REGULAR: a text of more than 200: 2, at 200, ahead of all");
        went(many("[aa]", 50), REGULAR, 51);
        went("(" + many("a", 194) + "){0}b", REGULAR, 2);
        stopped("(" + many("a", 195) + "){0}b", REGULAR, TOO_LARGE, 200);
        stopped(")" + many("a", 200), REGULAR, TOO_LARGE, 200);
        stopped(many("(", 201), REGULAR, TOO_LARGE, 200);
        stopped("a{21}" + many("a", 395), REGULAR, TOO_LARGE, 200);
        stopped(")" + many("a", 199), REGULAR, WRONG, 0);

        sentence("REGULAR: FAULTS: the first that is met");
        stopped("a{21}[b-a]", REGULAR, WRONG, 4);
        stopped("[b-a]a{21}", REGULAR, WRONG, 4);
        stopped("[b-a]" + many("(", 13), REGULAR, WRONG, 4);
        stopped(many("(", 13) + "[b-a]", REGULAR, TOO_LARGE, 13);
        stopped("a{20}{7})", REGULAR, TOO_LARGE, 8);
        stopped(")a{20}{7}", REGULAR, WRONG, 0);
        stopped(many("a", 121) + ")", REGULAR, WRONG, 121);
        stopped(many("a", 121) + "(", REGULAR, WRONG, 122);
        stopped("(a{20}{6}b", REGULAR, WRONG, 10);
        stopped("a{21,1}", REGULAR, WRONG, 4);
        stopped("a{3,2", REGULAR, WRONG, 5);
        stopped("[b-a", REGULAR, WRONG, 4);
    }

    private static void numbers() {
        sentence("REGULAR: number: 0 .. 20 (a FAULT is behind it)");
        went("a{20}", REGULAR, 21);
        went("a{0}", REGULAR, 1);
        went("a{0,20}", REGULAR, 21);
        went("a{20,}", REGULAR, 21);
        went("a{0,}", REGULAR, 1);
        stopped("a{21}", REGULAR, WRONG, 4);
        stopped("a{99}", REGULAR, WRONG, 4);
        stopped("a{0,21}", REGULAR, WRONG, 6);
        stopped("a{21,}", REGULAR, WRONG, 4);
        stopped("a{-1}", REGULAR, WRONG, 2);

        sentence("REGULAR: number: one or two digits");
        went("a{2}", REGULAR, 3);
        went("a{02}", REGULAR, 3);
        went("a{00,02}", REGULAR, 3);
        stopped("a{}", REGULAR, WRONG, 2);
        stopped("a{,2}", REGULAR, WRONG, 2);
        stopped("a{002}", REGULAR, WRONG, 4);
        stopped("a{2,003}", REGULAR, WRONG, 6);
        stopped("a{ 2}", REGULAR, WRONG, 2);
        stopped("a{2 }", REGULAR, WRONG, 3);

        sentence("REGULAR: of { , } the second not below the first (a FAULT is behind it)");
        went("a{2,2}", REGULAR, 3);
        went("a{2,3}", REGULAR, 4);
        went("a{0,0}", REGULAR, 1);
        went("a{20,20}", REGULAR, 21);
        stopped("a{2,1}", REGULAR, WRONG, 5);
        stopped("a{1,0}", REGULAR, WRONG, 5);
        stopped("a{20,19}", REGULAR, WRONG, 7);

        sentence("REGULAR: {n, m}: n, then m - n that may each be missing; {n, }: n, then with *; {n}: n");
        lengths("a{2,4}", 2, 4);
        lengths("a{0,1}", 0, 1);
        lengths("a{3}", 3, 3);
        lengths("a{0}", 0, 0);
        lengths("a{3,}", 3, 8);
        lengths("a{0,}", 0, 8);
        lengths("a{1,}", 1, 8);
        lengths("(a?){3}", 0, 3);
        lengths("(a{1,2}){2,3}", 2, 6);
        lengths("a+", 1, 8);
        lengths("a*", 0, 8);
        lengths("a?", 0, 1);
    }

    /** A row of a's is taken, if it is as long as the first of these, as the last, or between them. */
    private static void lengths(String text, int first, int last) {
        FuzzyWords x = rich(text);
        x.regular();
        for (int length = 0; length <= 8; length++) {
            due(text + " of " + length, x.number(length), length >= first && length <= last ? 1 : 0);
        }
    }

    private static void spans() {
        sentence("REGULAR: a span's second member not below the first (a FAULT is behind it)");
        went("[a-a]", REGULAR, 2);
        went("[a-b]", REGULAR, 2);
        went("[ -~]", REGULAR, 2);
        stopped("[b-a]", REGULAR, WRONG, 4);
        stopped("[~- ]", REGULAR, WRONG, 4);
        stopped("[\\b-\\a]", REGULAR, WRONG, 6);
        stopped("[abc-b]", REGULAR, WRONG, 6);
        FuzzyWords x = went("[b-d]", REGULAR, 2);
        due("three signs", x.number(1), 3);
        due("the first", takes(x, "b"), 1);
        due("the last", takes(x, "d"), 1);

        sentence("REGULAR: a - right behind a member is always its span's");
        stopped("[a-]", REGULAR, WRONG, 3);
        stopped("[^a-]", REGULAR, WRONG, 4);
        stopped("[--]", REGULAR, WRONG, 3);
        stopped("[a-\\]]", REGULAR, WRONG, 5);
        due("[-]", went("[-]", REGULAR, 2).number(1), 1);
        due("[-a]", went("[-a]", REGULAR, 2).number(1), 2);
        due("[---]", went("[---]", REGULAR, 2).number(1), 1);
        due("[--/]", went("[--/]", REGULAR, 2).number(1), 3);
        due("[a\\-c]", went("[a\\-c]", REGULAR, 2).number(1), 3);
        due("[\\]-a]", went("[\\]-a]", REGULAR, 2).number(1), 5);

        sentence("REGULAR: member: a SIGN but ] and \\ (and, as the first SIGN behind [, ^)");
        stopped("[]", REGULAR, WRONG, 1);
        stopped("[]a]", REGULAR, WRONG, 1);
        stopped("[^]", REGULAR, WRONG, 2);
        stopped("[^]a]", REGULAR, WRONG, 2);
        stopped("[\\]", REGULAR, WRONG, 3);
        due("[^^]", went("[^^]", REGULAR, 2).number(1), 94);
        due("[a^]", went("[a^]", REGULAR, 2).number(1), 2);
        due("[\\^]", went("[\\^]", REGULAR, 2).number(1), 1);
        due("[\\]]", went("[\\]]", REGULAR, 2).number(1), 1);
        due("[\\\\]", went("[\\\\]", REGULAR, 2).number(1), 1);
        due("[[]", went("[[]", REGULAR, 2).number(1), 1);
        due("[|*+?{}().]", went("[|*+?{}().]", REGULAR, 2).number(1), 9);
        due("[^ -~]", went("[^ -~]", REGULAR, 0).number(1), 0);
        due("[^ -}]", went("[^ -}]", REGULAR, 2).number(1), 1);
    }

    private static void standing() {
        sentence("REGULAR: FAULTS: 1 another SIGN than can stand there");
        for (char sign : "*+?{}])".toCharArray()) {
            stopped("" + sign, REGULAR, WRONG, 0);
            stopped("a|" + sign, REGULAR, WRONG, 2);
        }
        for (char sign : "*+?{}]".toCharArray()) {
            stopped("(" + sign, REGULAR, WRONG, 1);
        }
        for (char sign : "}])".toCharArray()) {
            stopped("a" + sign, REGULAR, WRONG, 1);
            went("a\\" + sign, REGULAR, 3);
        }
        stopped("a{2x", REGULAR, WRONG, 3);
        stopped("a{2,x", REGULAR, WRONG, 4);
        stopped("a{2,3x", REGULAR, WRONG, 5);
        stopped("a{2,,", REGULAR, WRONG, 4);
        stopped("a{{", REGULAR, WRONG, 2);
        stopped("(a))", REGULAR, WRONG, 3);
        went("()", REGULAR, 1);
        went("()*", REGULAR, 1);
        went("(|)+", REGULAR, 1);
        went("a**+?{2}", REGULAR, 1);
        went("|", REGULAR, 1);
        went("a||b", REGULAR, 2);
        for (char sign : "-^,09=<&~ ".toCharArray()) {
            went("" + sign, REGULAR, 2);
        }

        sentence("REGULAR: FAULTS: 1 its end");
        stopped("(", REGULAR, WRONG, 1);
        stopped("(a", REGULAR, WRONG, 2);
        stopped("(a|", REGULAR, WRONG, 3);
        stopped("((a)", REGULAR, WRONG, 4);
        stopped("\\", REGULAR, WRONG, 1);
        stopped("a\\", REGULAR, WRONG, 2);
        stopped("[", REGULAR, WRONG, 1);
        stopped("[^", REGULAR, WRONG, 2);
        stopped("[a", REGULAR, WRONG, 2);
        stopped("[a-", REGULAR, WRONG, 3);
        stopped("[a-c", REGULAR, WRONG, 4);
        stopped("[\\", REGULAR, WRONG, 2);
        stopped("[a-\\", REGULAR, WRONG, 4);
        stopped("a{", REGULAR, WRONG, 2);
        stopped("a{2", REGULAR, WRONG, 3);
        stopped("a{2,", REGULAR, WRONG, 4);
        stopped("a{2,3", REGULAR, WRONG, 5);
        went("", REGULAR, 1);
        went("\\\\", REGULAR, 2);
        went("a|", REGULAR, 2);
    }

    /** The first bytes of a text whose rest was on the tape ahead of end(). */
    private static FuzzyWords cut(String text, int length) {
        FuzzyWords x = rich(text + many(")", 20 - text.length()));
        x.end(length);
        return x;
    }

    private static void behindTheEnd() {
        sentence("3: end: what does not stay is not there: no question reads on");
        String[] texts = {"[a]", "[^a]", "[a-c]", "[a\\]]", "(a)", "a{2}", "a{12}", "a{2,}", "a{2,3}", "a{2,13}",
            "a\\)"};
        for (String text : texts) {
            due(text, cut(text, text.length()).regular() > 0 ? 1 : 0, 1);
            FuzzyWords x = cut(text, text.length() - 1);
            due(text + " but its last", x.regular(), WRONG);
            due("at the end", x.place(), text.length() - 1);
        }
        FuzzyWords digits = cut("a{12}", 3);
        due("a{1", digits.regular(), WRONG);
        due("at the end", digits.place(), 3);
        FuzzyWords second = cut("a{2,13}", 5);
        due("a{2,1", second.regular(), WRONG);
        due("at the end", second.place(), 5);
        FuzzyWords comma = cut("a{2,3}", 3);
        due("a{2", comma.regular(), WRONG);
        due("at the end", comma.place(), 3);
        FuzzyWords span = cut("[a-c]", 2);
        due("[a", span.regular(), WRONG);
        due("at the end", span.place(), 2);
        FuzzyWords wild = cut("ab\\*", 3);
        due("ab\\", wild.wild(), WRONG);
        due("at the end", wild.place(), 3);
        due("a*", cut("a*b", 2).wild(), 2);
        due("ab", cut("ab*", 2).regular(), 3);
    }

    private static void deep() {
        sentence("REGULAR: ( ) in ( ): 12 deep; 2 too deep (at the SIGN behind the bracket)");
        went(many("(", 12) + "a" + many(")", 12), REGULAR, 2);
        went(many("(", 12) + many(")", 12) + many("(", 12) + many(")", 12), REGULAR, 1);
        went(many("(a)", 60), REGULAR, 61);
        stopped(many("(", 13) + "a" + many(")", 13), REGULAR, TOO_LARGE, 13);
        stopped(many("(", 13), REGULAR, TOO_LARGE, 13);
        stopped("ab" + many("(", 14) + "a", REGULAR, TOO_LARGE, 15);
        stopped("(((a)))" + many("(x|", 13), REGULAR, TOO_LARGE, 7 + 12 * 3 + 1);
        stopped(many("(", 12), REGULAR, WRONG, 12);
        went(many("(", 12) + "\\([(]" + many(")", 12), REGULAR, 3);
    }

    private static void places() {
        sentence("REGULAR: each sign, . and [ ] is a PLACE, each time that it is there so: 120 at most");
        for (String one : new String[] {"a", ".", "[a-c]", "\\a"}) {
            went(one + "{20}{6}", REGULAR, 121);
            went(one + "{20}{5}" + many(one, 20), REGULAR, 121);
            String more = one + "{20}{5}" + many(one, 21);
            stopped(more, REGULAR, TOO_LARGE, more.length());
        }
        went("(a{20}{6})+", REGULAR, 121);
        went("(a{20}{6})*", REGULAR, 120);
        went("(a{20}{6})?", REGULAR, 121);
        went("a{20}{6}(bc){0}", REGULAR, 121);
        went("a{20}{3}|b{20}{3}", REGULAR, 120);

        sentence("REGULAR: FAULTS: 2 a { } that makes more than 120 PLACES (behind its })");
        went("(a{12}){10}", REGULAR, 121);
        stopped("(a{11}){11}", REGULAR, TOO_LARGE, 11);
        went("(a{12}){0,10}", REGULAR, 121);
        stopped("(a{11}){0,11}", REGULAR, TOO_LARGE, 13);
        went("(a{12}){9,}", REGULAR, 109);
        stopped("(a{11}){10,}", REGULAR, TOO_LARGE, 12);
        stopped("(a{20}{3}b){2}", REGULAR, TOO_LARGE, 14);
        went("(a{20}{3}){2}", REGULAR, 121);
        stopped("(" + many("a", 121) + "){1}c", REGULAR, TOO_LARGE, 126);
        went("(" + many("a", 121) + "){0}c", REGULAR, 2);
        stopped("(" + many("a", 121) + "){0,}c", REGULAR, TOO_LARGE, 127);
        went("()" + many("{20}", 49) + "aa", REGULAR, 3);

        sentence("REGULAR: FAULTS: 2 more in all (at the end of the text)");
        went(many("a", 120), REGULAR, 121);
        stopped(many("a", 121), REGULAR, TOO_LARGE, 121);
        stopped("a{20}{6}b", REGULAR, TOO_LARGE, 9);
        stopped("ba{20}{6}", REGULAR, TOO_LARGE, 9);
        stopped("a{20}{6}b*c|d", REGULAR, TOO_LARGE, 13);
        stopped("a{20}{3}|b{20}{3}|c", REGULAR, TOO_LARGE, 19);
    }

    private static void empty() {
        sentence("REGULAR: ACCEPTED: the beginning, if the empty word is taken");
        for (String text : new String[] {"", "|", "a|", "a*", "a?", "a{0}", "a{0,3}", "a{0,}", "()", "(a?)+", "a?b*"}) {
            FuzzyWords x = rich(text);
            x.regular();
            due(text, x.number(0), 1);
        }
        for (String text : new String[] {"a", ".", "a+", "a{1,}", "a{1}", "[^ -~]", "a?b", "(a*b)+", "a|b"}) {
            FuzzyWords x = rich(text);
            x.regular();
            due(text, x.number(0), 0);
        }
    }

    public static void main(String[] args) {
        signs();
        nearWords();
        nearEdges();
        wild();
        ranges();
        place();
        sets();
        behindTooMany();
        pairs();
        statesOfPairs();
        texts();
        numbers();
        spans();
        standing();
        behindTheEnd();
        deep();
        places();
        empty();
        reportSentences("QuestionBoundariesTest");
    }
}
