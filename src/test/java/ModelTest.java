/** Long mixed runs of calls, chosen by a counted seed, on the program and on the model. */
public final class ModelTest {
    private static long seed;

    private static int below(int bound) {
        seed = seed * 6364136223846793005L + 1442695040888963407L;
        return (int) ((seed >>> 33) % bound);
    }

    private static boolean coin() {
        return below(2) == 0;
    }

    private static String pick(String... choices) {
        return choices[below(choices.length)];
    }

    private static String letters(int most, String from) {
        StringBuilder text = new StringBuilder();
        int length = below(most + 1);
        for (int i = 0; i < length; i++) {
            text.append(from.charAt(below(from.length())));
        }
        return text.toString();
    }

    private static String grammar(int depth) {
        StringBuilder text = new StringBuilder();
        int parts = 1 + below(4);
        for (int i = 0; i < parts; i++) {
            int kind = below(12);
            if (kind < 2 && depth > 0) {
                text.append('(').append(grammar(depth - 1)).append(')');
            } else if (kind == 2) {
                text.append(pick("[a-c]", "[^a]", "[ab-d~]", "[^ -z]", "[\\]a]", "[-a]", "[a^]", "[^^]",
                    "[\\\\-\\^]", "[+--]", "[a-b-d]"));
            } else if (kind == 3) {
                text.append(pick(".", ".", "\\.", "\\*", "\\a", "-", "^", ",", " ", "~"));
            } else if (kind == 4) {
                text.append('|');
                continue;
            } else {
                text.append(pick("a", "b", "c", "d"));
            }
            int repeat = below(14);
            if (repeat < 5) {
                text.append(pick("*", "+", "?", "{2}", "{0,2}"));
            } else if (repeat == 5) {
                text.append('{').append(below(6)).append(",").append(coin() ? "" : "" + (5 + below(4))).append('}');
            } else if (repeat == 6) {
                text.append(pick("{0}", "{0,0}", "{1}", "{01}", "{20}", "{0,}", "{3,}", "**", "?+", "{2}{3}",
                    "{9,20}"));
            }
        }
        return text.toString();
    }

    /** One sign put in, left out or another, so that most of the texts have a fault. */
    private static String spoiled(String text) {
        int at = below(text.length() + 1);
        String sign = pick("(", ")", "[", "]", "{", "}", "*", "\\", "-", ",", "^", "1", "9", "2", "|", ".");
        String rest = coin() && at < text.length() ? text.substring(at + 1) : text.substring(at);
        return text.substring(0, at) + (below(4) == 0 ? "" : sign) + rest;
    }

    private static void ask(Twin twin) {
        if (twin.count(3) > 0 && below(4) > 0) {
            clearTape(twin);
        }
        switch (below(6)) {
            case 0:
                String near = letters(below(3) == 0 ? 16 : 7, coin() ? "ab" : "abcdefgh");
                twin.type(near);
                twin.near(below(3), coin(), coin() ? 0 : below(near.length() + 1));
                break;
            case 1:
                twin.type(letters(12, "ab*?\\c"));
                twin.wild();
                twin.place();
                break;
            case 2:
                String between = letters(6, "abc ~");
                twin.type(between);
                twin.between(below(between.length() + 1), coin(), coin());
                break;
            default:
                String text = grammar(3);
                twin.type(below(3) == 0 ? spoiled(text) : text);
                twin.regular();
                twin.place();
                break;
        }
        twin.compareMachine();
    }

    /** The empty grammar leaves an empty tape, whatever was asked before. */
    private static void clearTape(Twin twin) {
        while (twin.count(3) >= 20) {
            twin.end(0);
        }
        int left = twin.count(3);
        if (left > 0) {
            twin.type("....................".substring(left));
            twin.end(0);
        }
    }

    private static void change(Twin twin) {
        switch (below(9)) {
            case 0:
            case 1:
            case 2:
                clearTape(twin);
                twin.type(letters(6, "abcd"));
                twin.add(below(4));
                break;
            case 3:
                twin.drop(below(twin.count(0) + 1));
                break;
            case 4:
                twin.keep();
                break;
            case 5:
            case 6:
                twin.make(below(4));
                twin.compareMachine();
                break;
            case 7:
                twin.shortest();
                for (int i = -1; i <= twin.count(3); i++) {
                    twin.byteOf(i);
                }
                break;
            default:
                twin.feed(below(1 << 30) * 3, below(1 << 30) * 5, below(1 << 30), below(9), below(1 << 30));
                twin.add(1);
                twin.wild();
                twin.near(1, true, 0);
                twin.regular();
                twin.between(3, true, true);
                twin.end(below(22));
                break;
        }
    }

    private static void look(Twin twin) {
        twin.same();
        twin.walk();
        twin.steps();
        for (int i = -1; i <= 6; i++) {
            twin.taken(i);
            twin.best(i);
        }
        for (int length = -1; length <= 9; length++) {
            twin.number(length);
        }
        int words = twin.count(0);
        twin.distance(below(words + 1), below(words + 1), coin());
        twin.word(below(words + 1), below(10) - 3);
        for (int what = -1; what <= 5; what++) {
            twin.count(what);
        }
    }

    /** Machines near the limits, each made with each. */
    private static void compareLargeOnes() {
        String[] texts = {".*a.{7}", "(.*a.{3}b|(c{20})*d|(e{9})*f|(g{11})*h|(i{13})*j)(k|l)*", "(a{11}{4})*c[ -y]",
            "(a{15}{3})*b|[!-z][#-x][$-w]q", "[ab]{0,20}c{0,20}d{0,20}", "(a?b?c?d?){20}", "x.*a.{6}|(.{13})*",
            "((a|b){7}|(b|c|de){9}f?){2,4}"};
        for (String hand : texts) {
            for (String another : texts) {
                for (int what = 0; what < 4; what++) {
                    Twin twin = new Twin();
                    twin.type(another);
                    twin.regular();
                    twin.keep();
                    twin.type(hand);
                    twin.regular();
                    twin.make(what);
                    twin.compareMachine();
                    twin.number(8);
                    twin.same();
                    twin.shortest();
                }
            }
        }
    }

    public static void main(String[] args) {
        compareLargeOnes();
        int runs = args.length > 0 ? Integer.parseInt(args[0]) : 300;
        for (int run = 0; run < runs; run++) {
            seed = run;
            Twin twin = new Twin();
            for (int turn = 0; turn < 25; turn++) {
                ask(twin);
                change(twin);
                change(twin);
                look(twin);
            }
        }
        System.out.println("ModelTest: " + Twin.calls + " answers held against the model, " + Twin.wrong + " wrong");
        if (Twin.wrong != 0) {
            System.exit(1);
        }
    }
}
