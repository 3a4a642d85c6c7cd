import java.util.ArrayList;
import java.util.Arrays;
import java.util.Collections;
import java.util.HashMap;
import java.util.HashSet;
import java.util.List;
import java.util.Map;
import java.util.Set;
import java.util.TreeMap;
import java.util.TreeSet;
import java.util.function.BiFunction;
import java.util.function.Predicate;

/**
 * The document once more, in its plainest form: sets are sets, every sign is stepped by on its own,
 * and the least machine is found by telling blocks apart until nothing changes. It is slow, and
 * shares no line with the program, so that the two can be held against each other.
 */
final class Model {
    static final int BAD = -1, NONE = -2, FULL = -3, TOO_MANY = -4;

    static final class Fault extends RuntimeException {
        private static final long serialVersionUID = 1L;
        final int kind, place;

        Fault(int kind, int place) {
            this.kind = kind;
            this.place = place;
        }
    }

    static final class Dfa {
        List<int[]> next = new ArrayList<>();
        List<Boolean> accept = new ArrayList<>();

        int states() {
            return next.size();
        }

        int run(String word) {
            int state = states() == 0 ? NONE : 0;
            for (int i = 0; i < word.length() && state != NONE; i++) {
                state = next.get(state)[word.charAt(i) - 32];
            }
            return state;
        }

        boolean takes(String word) {
            int state = run(word);
            return state != NONE && accept.get(state);
        }
    }

    private final List<Integer> tape = new ArrayList<>();
    private final TreeMap<String, Integer> words = new TreeMap<>();
    Dfa hand = new Dfa(), another = new Dfa();
    private int place = NONE;
    private String target = null;
    private boolean targetSwaps;
    private List<Integer> taken = new ArrayList<>();
    private int steps;

    /** How many sets the latest question came to: for choosing edges, not an answer of the document. */
    int lastSets;

    // ---- the tape

    int feed(int a, int b, int c, int d, int e) {
        if (tape.size() + 20 > 400) {
            return FULL;
        }
        for (int number : new int[] {a, b, c, d, e}) {
            for (int shift = 24; shift >= 0; shift -= 8) {
                tape.add(number >> shift & 255);
            }
        }
        return tape.size();
    }

    int end(int n) {
        if (n < 0 || n > 20 || tape.size() < 20) {
            return BAD;
        }
        for (int i = n; i < 20; i++) {
            tape.remove(tape.size() - 1);
        }
        return tape.size();
    }

    int byteOf(int i) {
        return i < 0 || i >= tape.size() ? BAD : tape.get(i);
    }

    /** The tape as a text; null if a byte is no sign. */
    private String text() {
        StringBuilder text = new StringBuilder();
        for (int code : tape) {
            if (code < 32 || code > 126) {
                return null;
            }
            text.append((char) code);
        }
        return text.toString();
    }

    // ---- the dictionary

    int add(int use) {
        String text = text();
        if (text == null || text.isEmpty() || text.length() > 16 || use < 0 || use > 1000000) {
            return BAD;
        }
        if (words.size() == 120 && !words.containsKey(text)) {
            return FULL;
        }
        words.put(text, use);
        tape.clear();
        return words.size();
    }

    private String wordAt(int i) {
        return i < 0 || i >= words.size() ? null : new ArrayList<>(words.keySet()).get(i);
    }

    int drop(int i) {
        if (wordAt(i) == null) {
            return BAD;
        }
        words.remove(wordAt(i));
        return words.size();
    }

    int word(int i, int k) {
        String word = wordAt(i);
        if (word == null || k < -2 || k >= word.length()) {
            return BAD;
        }
        return k == -2 ? words.get(word) : k == -1 ? word.length() : word.charAt(k);
    }

    int distance(int i, int j, boolean swaps) {
        return wordAt(i) == null || wordAt(j) == null ? BAD : edits(wordAt(i), wordAt(j), swaps);
    }

    static int edits(String a, String b, boolean swaps) {
        return edits(a, b, swaps, new HashMap<>());
    }

    private static int edits(String a, String b, boolean swaps, Map<String, Integer> known) {
        if (a.isEmpty() || b.isEmpty()) {
            return a.length() + b.length();
        }
        String key = a.length() + "," + b.length();
        if (known.containsKey(key)) {
            return known.get(key);
        }
        int least = 1 + edits(a.substring(1), b, swaps, known);
        least = Math.min(least, 1 + edits(a, b.substring(1), swaps, known));
        int other = a.charAt(0) == b.charAt(0) ? 0 : 1;
        least = Math.min(least, other + edits(a.substring(1), b.substring(1), swaps, known));
        if (swaps && a.length() > 1 && b.length() > 1 && a.charAt(0) == b.charAt(1) && a.charAt(1) == b.charAt(0)) {
            least = Math.min(least, 1 + edits(a.substring(2), b.substring(2), swaps, known));
        }
        known.put(key, least);
        return least;
    }

    // ---- questions

    int near(int e, boolean swaps, int p) {
        String w = text();
        if (w == null || w.length() > 16 || e < 0 || e > 2 || p < 0 || p > w.length()) {
            return BAD;
        }
        tape.clear();
        int n = w.length();
        Set<List<Integer>> first = closeNear(Set.of(List.of(0, 0, 0)), n, e, p);
        BiFunction<Set<List<Integer>>, Character, Set<List<Integer>>> step = (set, c) -> {
            Set<List<Integer>> to = new HashSet<>();
            for (List<Integer> pair : set) {
                int i = pair.get(0), d = pair.get(1);
                if (pair.get(2) == 1) {
                    if (w.charAt(i) == c) {
                        to.add(List.of(i + 2, d, 0));
                    }
                    continue;
                }
                if (i < n && w.charAt(i) == c) {
                    to.add(List.of(i + 1, d, 0));
                }
                if (i >= p && d < e) {
                    to.add(List.of(i, d + 1, 0));
                    if (i < n) {
                        to.add(List.of(i + 1, d + 1, 0));
                    }
                    if (swaps && i + 1 < n && w.charAt(i + 1) == c) {
                        to.add(List.of(i, d + 1, 1));
                    }
                }
            }
            return closeNear(to, n, e, p);
        };
        int answer = build(first, step, set -> set.stream().anyMatch(x -> x.get(0) == n && x.get(2) == 0), 1000);
        if (answer != TOO_MANY) {
            target = w;
            targetSwaps = swaps;
        }
        return answer;
    }

    private static Set<List<Integer>> closeNear(Set<List<Integer>> set, int n, int e, int p) {
        Set<List<Integer>> closed = new HashSet<>(set);
        for (int round = 0; round < e; round++) {
            for (List<Integer> pair : new ArrayList<>(closed)) {
                int i = pair.get(0), d = pair.get(1);
                if (pair.get(2) == 0 && i >= p && i < n && d < e) {
                    closed.add(List.of(i + 1, d + 1, 0));
                }
            }
        }
        return closed;
    }

    int wild() {
        String text = text();
        if (text == null) {
            return BAD;
        }
        tape.clear();
        place = NONE;
        if (text.length() > 40) {
            place = 40;
            return -12;
        }
        boolean isOpen = false;
        for (char sign : text.toCharArray()) {
            isOpen = !isOpen && sign == '\\';
        }
        if (isOpen) {
            place = text.length();
            return -11;
        }
        // a place is the text's own index
        Set<Integer> first = new HashSet<>(Set.of(0));
        closeWild(first, text);
        BiFunction<Set<Integer>, Character, Set<Integer>> step = (set, c) -> {
            Set<Integer> to = new HashSet<>();
            for (int i : set) {
                if (i == text.length()) {
                    continue;
                }
                char sign = text.charAt(i);
                if (sign == '*') {
                    to.add(i);
                } else if (sign == '\\') {
                    if (text.charAt(i + 1) == c) {
                        to.add(i + 2);
                    }
                } else if (sign == '?' || sign == c) {
                    to.add(i + 1);
                }
            }
            closeWild(to, text);
            return to;
        };
        return build(first, step, set -> set.contains(text.length()), 1000);
    }

    private static void closeWild(Set<Integer> set, String text) {
        for (int i = 0; i < text.length(); i++) {
            if (set.contains(i) && text.charAt(i) == '*') {
                set.add(i + 1);
            }
        }
    }

    int regular() {
        String text = text();
        if (text == null) {
            return BAD;
        }
        tape.clear();
        place = NONE;
        try {
            Grammar grammar = new Grammar(text);
            Net net = new Net();
            Part whole = net.lay(grammar.tree);
            net.follow.add(whole.first);
            int beginning = net.follow.size() - 1;
            net.signs.add(new HashSet<>());
            if (whole.empty) {
                whole.last.add(beginning);
            }
            BiFunction<Set<Integer>, Character, Set<Integer>> step = (set, c) -> {
                Set<Integer> to = new HashSet<>();
                for (int from : set) {
                    for (int reached : net.follow.get(from)) {
                        if (net.signs.get(reached).contains(c)) {
                            to.add(reached);
                        }
                    }
                }
                return to;
            };
            return build(Set.of(beginning), step, set -> !Collections.disjoint(set, whole.last), 1000);
        } catch (Fault fault) {
            place = fault.place;
            return -10 - fault.kind;
        }
    }

    /** A tree of the grammar: kind, parts; of a repeat fewest and most (endless: -1). */
    static final class Tree {
        final char kind;
        final List<Tree> parts = new ArrayList<>();
        Set<Character> signs;
        int fewest, most;

        Tree(char kind) {
            this.kind = kind;
        }

        long places() {
            long sum = 0;
            for (Tree part : parts) {
                sum += part.places();
            }
            if (kind == '{') {
                return sum * (most < 0 ? fewest + 1 : most);
            }
            return kind == 's' ? 1 : sum;
        }
    }

    static final class Grammar {
        private final String text;
        private int at = 0;
        final Tree tree;

        Grammar(String text) {
            this.text = text;
            if (text.length() > 200) {
                throw new Fault(2, 200);
            }
            tree = alt(0);
            if (at < text.length()) {
                throw new Fault(1, at);
            }
            if (tree.places() > 120) {
                throw new Fault(2, text.length());
            }
        }

        private char peek() {
            return at < text.length() ? text.charAt(at) : 0;
        }

        private Tree alt(int depth) {
            if (depth > 12) {
                throw new Fault(2, at);
            }
            Tree alt = new Tree('|');
            alt.parts.add(row(depth));
            while (peek() == '|') {
                at++;
                alt.parts.add(row(depth));
            }
            return alt;
        }

        private Tree row(int depth) {
            Tree row = new Tree('r');
            while (peek() != 0 && "|*+?{})]".indexOf(peek()) < 0) {
                row.parts.add(many(depth));
            }
            return row;
        }

        private Tree many(int depth) {
            Tree tree = one(depth);
            while (peek() != 0 && "*+?{".indexOf(peek()) >= 0) {
                Tree outer = new Tree(peek());
                at++;
                outer.parts.add(tree);
                tree = outer;
                if (tree.kind == '{') {
                    times(tree);
                }
            }
            return tree;
        }

        private void times(Tree tree) {
            tree.fewest = number();
            tree.most = tree.fewest;
            if (peek() == ',') {
                at++;
                tree.most = -1;
                if (Character.isDigit(peek())) {
                    tree.most = number();
                    if (tree.most < tree.fewest) {
                        throw new Fault(1, at);
                    }
                }
            }
            need('}');
            if (tree.places() > 120) {
                throw new Fault(2, at);
            }
        }

        private int number() {
            if (!Character.isDigit(peek())) {
                throw new Fault(1, at);
            }
            int value = peek() - '0';
            at++;
            if (Character.isDigit(peek())) {
                value = value * 10 + peek() - '0';
                at++;
            }
            if (value > 20) {
                throw new Fault(1, at);
            }
            return value;
        }

        private void need(char sign) {
            if (peek() != sign) {
                throw new Fault(1, at);
            }
            at++;
        }

        private char any() {
            if (peek() == 0) {
                throw new Fault(1, at);
            }
            at++;
            return text.charAt(at - 1);
        }

        private Tree one(int depth) {
            char sign = any();
            if (sign == '(') {
                Tree group = alt(depth + 1);
                need(')');
                return group;
            }
            Tree leaf = new Tree('s');
            leaf.signs = new HashSet<>();
            if (sign == '.') {
                addSpan(leaf.signs, ' ', '~');
            } else if (sign == '[') {
                spans(leaf);
            } else {
                leaf.signs.add(sign == '\\' ? any() : sign);
            }
            return leaf;
        }

        private void spans(Tree leaf) {
            boolean turned = peek() == '^';
            if (turned) {
                at++;
            }
            Set<Character> in = new HashSet<>();
            do {
                char from = member();
                char to = from;
                if (peek() == '-') {
                    at++;
                    to = member();
                    if (to < from) {
                        throw new Fault(1, at);
                    }
                }
                addSpan(in, from, to);
            } while (peek() != ']');
            at++;
            if (turned) {
                addSpan(leaf.signs, ' ', '~');
                leaf.signs.removeAll(in);
            } else {
                leaf.signs.addAll(in);
            }
        }

        private char member() {
            if (peek() == ']') {
                throw new Fault(1, at);
            }
            char sign = any();
            return sign == '\\' ? any() : sign;
        }

        private static void addSpan(Set<Character> signs, char from, char to) {
            for (char c = from; c <= to; c++) {
                signs.add(c);
            }
        }
    }

    static final class Part {
        Set<Integer> first = new TreeSet<>(), last = new TreeSet<>();
        boolean empty = true;

        void then(Part part, Net net) {
            for (int place : last) {
                net.follow.get(place).addAll(part.first);
            }
            if (empty) {
                first.addAll(part.first);
            }
            if (!part.empty) {
                last.clear();
            }
            last.addAll(part.last);
            empty &= part.empty;
        }

        void again(Net net) {
            for (int place : last) {
                net.follow.get(place).addAll(first);
            }
        }
    }

    static final class Net {
        final List<Set<Integer>> follow = new ArrayList<>();
        final List<Set<Character>> signs = new ArrayList<>();

        Part lay(Tree tree) {
            Part part = new Part();
            if (tree.places() == 0) {
                return part;
            }
            switch (tree.kind) {
                case 's':
                    part.first.add(follow.size());
                    part.last.add(follow.size());
                    part.empty = false;
                    follow.add(new TreeSet<>());
                    signs.add(tree.signs);
                    return part;
                case 'r':
                    for (Tree inner : tree.parts) {
                        part.then(lay(inner), this);
                    }
                    return part;
                case '|':
                    part.empty = false;
                    for (Tree inner : tree.parts) {
                        Part choice = lay(inner);
                        part.first.addAll(choice.first);
                        part.last.addAll(choice.last);
                        part.empty |= choice.empty;
                    }
                    return part;
                case '{':
                    for (int i = 0; i < (tree.most < 0 ? tree.fewest + 1 : tree.most); i++) {
                        Part time = lay(tree.parts.get(0));
                        if (i >= tree.fewest) {
                            time.empty = true;
                            if (tree.most < 0) {
                                time.again(this);
                            }
                        }
                        part.then(time, this);
                    }
                    return part;
                default:
                    part = lay(tree.parts.get(0));
                    if (tree.kind != '?') {
                        part.again(this);
                    }
                    if (tree.kind != '+') {
                        part.empty = true;
                    }
                    return part;
            }
        }
    }

    /** Sets here are beginnings of words, as far as they still can become one of those between. */
    int between(int n, boolean lowerIn, boolean upperIn) {
        String text = text();
        if (text == null || n < 0 || n > text.length() || n > 16 || text.length() - n > 16) {
            return BAD;
        }
        tape.clear();
        String lower = text.substring(0, n), upper = text.substring(n);
        Predicate<String> isIn = word -> {
            int above = word.compareTo(lower), below = word.compareTo(upper);
            return (above > 0 || above == 0 && lowerIn) && (below < 0 || below == 0 && upperIn);
        };
        // a word that is neither one's beginning has left the words; how it compares is settled then
        BiFunction<String, Character, String> step = (word, c) -> {
            if (word.startsWith("\n")) {
                return word;
            }
            String longer = word + c;
            if (lower.startsWith(longer) || upper.startsWith(longer)) {
                return longer;
            }
            return (longer.compareTo(lower) > 0) && (longer.compareTo(upper) < 0) ? "\n+" : "\n-";
        };
        return build("", step, word -> word.startsWith("\n") ? word.equals("\n+") : isIn.test(word), 1000);
    }

    int place() {
        return place;
    }

    // ---- machines

    int keep() {
        another = hand;
        return another.states();
    }

    int make(int what) {
        if (what < 0 || what > 3) {
            return BAD;
        }
        Dfa one = hand, two = another;
        List<Integer> first = List.of(one.states() == 0 ? NONE : 0, two.states() == 0 || what == 3 ? NONE : 0);
        BiFunction<List<Integer>, Character, List<Integer>> step = (pair, c) -> {
            int a = pair.get(0), b = pair.get(1);
            return List.of(a == NONE ? NONE : one.next.get(a)[c - 32], b == NONE ? NONE : two.next.get(b)[c - 32]);
        };
        Predicate<List<Integer>> accept = pair -> {
            boolean a = pair.get(0) != NONE && one.accept.get(pair.get(0));
            boolean b = pair.get(1) != NONE && two.accept.get(pair.get(1));
            return what == 0 ? a || b : what == 1 ? a && b : what == 2 ? a && !b : !a;
        };
        return build(first, step, accept, 2000);
    }

    private <S> int build(S first, BiFunction<S, Character, S> step, Predicate<S> accept, int limit) {
        Map<S, Integer> numbers = new HashMap<>();
        List<S> sets = new ArrayList<>();
        List<int[]> rows = new ArrayList<>();
        numbers.put(first, 0);
        sets.add(first);
        for (int i = 0; i < sets.size(); i++) {
            int[] row = new int[95];
            for (int sign = 0; sign < 95; sign++) {
                S reached = step.apply(sets.get(i), (char) (sign + 32));
                Integer number = numbers.get(reached);
                if (number == null) {
                    number = sets.size();
                    numbers.put(reached, number);
                    sets.add(reached);
                    if (sets.size() > limit) {
                        lastSets = sets.size();
                        return TOO_MANY;
                    }
                }
                row[sign] = number;
            }
            rows.add(row);
        }
        lastSets = sets.size();
        int[] block = new int[sets.size()];
        for (int i = 0; i < block.length; i++) {
            block[i] = accept.test(sets.get(i)) ? 1 : 0;
        }
        return hold(rows, tellApart(rows, block), block);
    }

    private static int[] tellApart(List<int[]> rows, int[] accept) {
        int[] block = accept.clone();
        int blocks = -1;
        while (true) {
            Map<List<Integer>, Integer> kinds = new HashMap<>();
            int[] finer = new int[block.length];
            for (int i = 0; i < block.length; i++) {
                List<Integer> kind = new ArrayList<>(96);
                kind.add(block[i]);
                for (int reached : rows.get(i)) {
                    kind.add(block[reached]);
                }
                finer[i] = kinds.computeIfAbsent(kind, key -> kinds.size());
            }
            if (kinds.size() == blocks) {
                return block;
            }
            blocks = kinds.size();
            block = finer;
        }
    }

    private int hold(List<int[]> rows, int[] block, int[] accept) {
        Set<Integer> alive = new HashSet<>();
        int known = -1;
        while (known != alive.size()) {
            known = alive.size();
            for (int i = 0; i < block.length; i++) {
                boolean leads = accept[i] == 1;
                for (int reached : rows.get(i)) {
                    leads |= alive.contains(block[reached]);
                }
                if (leads) {
                    alive.add(block[i]);
                }
            }
        }
        if (alive.size() > 300) {
            return TOO_MANY;
        }
        Dfa dfa = new Dfa();
        Map<Integer, Integer> stateOf = new HashMap<>();
        List<Integer> queue = new ArrayList<>();
        if (alive.contains(block[0])) {
            stateOf.put(block[0], 0);
            queue.add(0);
        }
        for (int s = 0; s < queue.size(); s++) {
            int[] next = new int[95];
            Arrays.fill(next, NONE);
            for (int sign = 0; sign < 95; sign++) {
                int reached = rows.get(queue.get(s))[sign];
                if (!alive.contains(block[reached])) {
                    continue;
                }
                if (!stateOf.containsKey(block[reached])) {
                    stateOf.put(block[reached], queue.size());
                    queue.add(reached);
                }
                next[sign] = stateOf.get(block[reached]);
            }
            dfa.next.add(next);
            dfa.accept.add(accept[queue.get(s)] == 1);
        }
        hand = dfa;
        return dfa.states();
    }

    int same() {
        if (hand.states() != another.states() || !hand.accept.equals(another.accept)) {
            return 0;
        }
        for (int s = 0; s < hand.states(); s++) {
            if (!Arrays.equals(hand.next.get(s), another.next.get(s))) {
                return 0;
            }
        }
        return 1;
    }

    int next(int state, int sign) {
        return state < 0 || state >= hand.states() || sign < 32 || sign > 126 ? BAD : hand.next.get(state)[sign - 32];
    }

    int accepts(int state) {
        return state < 0 || state >= hand.states() ? BAD : hand.accept.get(state) ? 1 : 0;
    }

    long number(int length) {
        if (length < 0 || length > 8) {
            return BAD;
        }
        return hand.states() == 0 ? 0 : ways(0, length, new HashMap<>());
    }

    private long ways(int state, int length, Map<Integer, Long> known) {
        if (state == NONE) {
            return 0;
        }
        if (length == 0) {
            return hand.accept.get(state) ? 1 : 0;
        }
        int key = state * 16 + length;
        if (!known.containsKey(key)) {
            long sum = 0;
            for (int reached : hand.next.get(state)) {
                sum += ways(reached, length - 1, known);
            }
            known.put(key, sum);
        }
        return known.get(key);
    }

    int shortest() {
        if (hand.states() == 0) {
            return NONE;
        }
        List<String> words = new ArrayList<>(List.of(""));
        Set<Integer> seen = new HashSet<>(Set.of(0));
        for (int i = 0; i < words.size(); i++) {
            int state = hand.run(words.get(i));
            if (hand.accept.get(state)) {
                tape.clear();
                words.get(i).chars().forEach(tape::add);
                return tape.size();
            }
            for (int sign = 0; sign < 95; sign++) {
                int reached = hand.next.get(state)[sign];
                if (reached != NONE && seen.add(reached)) {
                    words.add(words.get(i) + (char) (sign + 32));
                }
            }
        }
        throw new IllegalStateException("a machine with states takes nothing");
    }

    // ---- walking

    int walk() {
        taken = new ArrayList<>();
        Set<String> come = new HashSet<>();
        int number = 0;
        for (String word : words.keySet()) {
            if (hand.takes(word)) {
                taken.add(number);
            }
            for (int length = 1; length <= word.length(); length++) {
                if (hand.run(word.substring(0, length - 1)) != NONE) {
                    come.add(word.substring(0, length));
                }
            }
            number++;
        }
        steps = come.size();
        return taken.size();
    }

    int taken(int i) {
        return i < 0 || i >= taken.size() ? BAD : taken.get(i);
    }

    int steps() {
        return steps;
    }

    int best(int i) {
        List<String> order = new ArrayList<>(words.keySet());
        List<String> found = new ArrayList<>();
        Map<String, Integer> far = new HashMap<>();
        for (String word : order) {
            if (hand.takes(word)) {
                found.add(word);
                far.put(word, target == null ? 0 : edits(target, word, targetSwaps));
            }
        }
        found.sort((a, b) -> !far.get(a).equals(far.get(b)) ? far.get(a) - far.get(b)
            : !words.get(a).equals(words.get(b)) ? words.get(b) - words.get(a) : a.compareTo(b));
        return i < 0 || i >= found.size() ? BAD : order.indexOf(found.get(i));
    }

    int count(int what) {
        int[] counts = {words.size(), hand.states(), another.states(), tape.size(), taken.size()};
        return what < 0 || what > 4 ? BAD : counts[what];
    }
}
