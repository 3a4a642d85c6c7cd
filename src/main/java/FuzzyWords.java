import java.util.Arrays;

/**
 * Words near a word, with signs that stand for any, of a grammar, between two words: each question
 * becomes the least machine that takes just these, and a dictionary is walked with it.
 */
public final class FuzzyWords {
    public static final int BAD = -1, NONE = -2, FULL = -3, TOO_MANY = -4;

    private static final int LOWEST_SIGN = 32, SIGNS = 95;
    private static final int MOST_TAPE = 400, MOUTHFUL = 20;
    private static final int MOST_WORDS = 120, MOST_LENGTH = 16, MOST_USE = 1_000_000;
    private static final int MOST_EDITS = 2;
    private static final int MOST_SETS = 1_000, MOST_PAIRS = 2_000, MOST_STATES = 300;
    private static final int LONGEST_COUNTED = 8;
    private static final int JOINED = 0, MET = 1, WITHOUT = 2, TURNED = 3;
    private static final int WRONG = 1, TOO_LARGE = 2, FAULT_BASE = -10;

    private final int[] tape = new int[MOST_TAPE];
    private int tapeLength;
    private final Dictionary dictionary = new Dictionary();

    private final Machine hand = new Machine();
    private final Machine another = new Machine();
    private final Near nearness = new Near();
    private final Wild pattern = new Wild();
    private final Regular grammar = new Regular();
    private final Between range = new Between();
    private final Pair pair = new Pair(hand, another);
    private final Sets sets = new Sets();
    private final Least least = new Least(sets);
    private int faultPlace = NONE;

    private final int[] takenWords = new int[MOST_WORDS];
    private int takenCount, stepCount;

    public FuzzyWords() {
    }

    public int feed(int a, int b, int c, int d, int e) {
        if (tapeLength + MOUTHFUL > MOST_TAPE) {
            return FULL;
        }
        feedNumber(a);
        feedNumber(b);
        feedNumber(c);
        feedNumber(d);
        feedNumber(e);
        return tapeLength;
    }

    public int end(int n) {
        if (n < 0 || n > MOUTHFUL || tapeLength < MOUTHFUL) {
            return BAD;
        }
        tapeLength += n - MOUTHFUL;
        return tapeLength;
    }

    public int byteOf(int i) {
        return i < 0 || i >= tapeLength ? BAD : tape[i];
    }

    public int add(int use) {
        if (tapeLength < 1 || tapeLength > MOST_LENGTH || !tapeIsSigns() || use < 0 || use > MOST_USE) {
            return BAD;
        }
        int answer = dictionary.put(tape, tapeLength, use);
        if (answer != FULL) {
            tapeLength = 0;
        }
        return answer;
    }

    public int drop(int i) {
        if (!dictionary.has(i)) {
            return BAD;
        }
        return dictionary.remove(i);
    }

    public int word(int i, int k) {
        if (!dictionary.has(i) || k < -2 || k >= dictionary.lengths[i]) {
            return BAD;
        }
        if (k == -2) {
            return dictionary.uses[i];
        }
        return k == -1 ? dictionary.lengths[i] : dictionary.signOf(i, k);
    }

    public int distance(int i, int j, boolean swaps) {
        if (!dictionary.has(i) || !dictionary.has(j)) {
            return BAD;
        }
        return dictionary.edits(dictionary.signs, i * MOST_LENGTH, dictionary.lengths[i], j, swaps);
    }

    public int near(int e, boolean swaps, int p) {
        if (tapeLength > MOST_LENGTH || !tapeIsSigns() || e < 0 || e > MOST_EDITS || p < 0 || p > tapeLength) {
            return BAD;
        }
        nearness.ask(tape, tapeLength, e, swaps, p);
        int answer = build(nearness, MOST_SETS);
        if (answer != TOO_MANY) {
            dictionary.rankBy(tape, tapeLength, swaps);
        }
        tapeLength = 0;
        return answer;
    }

    public int wild() {
        if (!tapeIsSigns()) {
            return BAD;
        }
        int fault = pattern.read(tape, tapeLength);
        return buildUnless(fault, pattern.faultAt, pattern);
    }

    public int regular() {
        if (!tapeIsSigns()) {
            return BAD;
        }
        int fault = grammar.read(tape, tapeLength);
        return buildUnless(fault, grammar.at, grammar);
    }

    public int between(int n, boolean lowerIn, boolean upperIn) {
        if (!tapeIsSigns() || n < 0 || n > tapeLength || n > MOST_LENGTH || tapeLength - n > MOST_LENGTH) {
            return BAD;
        }
        range.ask(tape, n, tapeLength, lowerIn, upperIn);
        tapeLength = 0;
        return build(range, MOST_SETS);
    }

    public int place() {
        return faultPlace;
    }

    public int keep() {
        another.copy(hand);
        return another.states;
    }

    public int make(int what) {
        if (what < JOINED || what > TURNED) {
            return BAD;
        }
        pair.ask(what);
        return build(pair, MOST_PAIRS);
    }

    public int same() {
        return hand.isLike(another) ? 1 : 0;
    }

    public int next(int state, int sign) {
        if (!hand.has(state) || !isSign(sign)) {
            return BAD;
        }
        return hand.after(state, sign - LOWEST_SIGN);
    }

    public int accepts(int state) {
        if (!hand.has(state)) {
            return BAD;
        }
        return hand.taking[state] ? 1 : 0;
    }

    public long number(int length) {
        if (length < 0 || length > LONGEST_COUNTED) {
            return BAD;
        }
        return hand.wordsOfLength(length);
    }

    public int shortest() {
        if (hand.states == 0) {
            return NONE;
        }
        tapeLength = hand.writeShortest(tape);
        return tapeLength;
    }

    public int walk() {
        takenCount = 0;
        stepCount = dictionary.follow(hand);
        for (int i = 0; i < dictionary.size; i++) {
            if (dictionary.isTaken[i]) {
                takenWords[takenCount] = i;
                takenCount++;
            }
        }
        return takenCount;
    }

    public int taken(int i) {
        return i < 0 || i >= takenCount ? BAD : takenWords[i];
    }

    public int steps() {
        return stepCount;
    }

    public int best(int i) {
        if (!dictionary.has(i)) {
            return BAD;
        }
        return i < dictionary.rankTaken(hand) ? dictionary.ranked[i] : BAD;
    }

    public int count(int what) {
        switch (what) {
            case 0:
                return dictionary.size;
            case 1:
                return hand.states;
            case 2:
                return another.states;
            case 3:
                return tapeLength;
            case 4:
                return takenCount;
            default:
                return BAD;
        }
    }

    private static boolean isSign(int code) {
        return code >= LOWEST_SIGN && code < LOWEST_SIGN + SIGNS;
    }

    /** Rows grow by doubling, so that a run makes few of them and small questions need little. */
    private static int[] roomFor(int[] row, int needed) {
        return needed <= row.length ? row : Arrays.copyOf(row, Math.max(needed, 2 * row.length));
    }

    private void feedNumber(int number) {
        for (int shift = 24; shift >= 0; shift -= 8) {
            tape[tapeLength] = (number >>> shift) & 255;
            tapeLength++;
        }
    }

    private boolean tapeIsSigns() {
        for (int i = 0; i < tapeLength; i++) {
            if (!isSign(tape[i])) {
                return false;
            }
        }
        return true;
    }

    private int buildUnless(int fault, int at, Question question) {
        tapeLength = 0;
        if (fault != 0) {
            faultPlace = at;
            return FAULT_BASE - fault;
        }
        faultPlace = NONE;
        return build(question, MOST_SETS);
    }

    /** The machine at hand is written last: until then the question may read it, or it may have to stay. */
    private int build(Question question, int limit) {
        if (!sets.gather(question, limit) || !least.reduce()) {
            return TOO_MANY;
        }
        least.writeTo(hand);
        return hand.states;
    }

    /** Words in their order, each with its use. */
    private static final class Dictionary {
        final int[] signs = new int[MOST_WORDS * MOST_LENGTH];
        final int[] lengths = new int[MOST_WORDS];
        final int[] uses = new int[MOST_WORDS];
        final boolean[] isTaken = new boolean[MOST_WORDS];
        int size;
        private final int[] stateBehind = new int[MOST_LENGTH + 1];
        private int[] older = new int[MOST_LENGTH + 1];
        private int[] old = new int[MOST_LENGTH + 1];
        private int[] fresh = new int[MOST_LENGTH + 1];
        private final int[] target = new int[MOST_LENGTH];
        private int targetLength;
        private boolean hasTarget, targetSwaps;
        final int[] ranked = new int[MOST_WORDS];
        private final int[] rankedEdits = new int[MOST_WORDS];

        boolean has(int i) {
            return i >= 0 && i < size;
        }

        int signOf(int i, int k) {
            return signs[i * MOST_LENGTH + k];
        }

        int put(int[] row, int length, int use) {
            int spot = 0;
            while (spot < size && compare(spot, row, length) < 0) {
                spot++;
            }
            boolean isThere = spot < size && compare(spot, row, length) == 0;
            if (!isThere && size == MOST_WORDS) {
                return FULL;
            }
            if (!isThere) {
                move(spot, spot + 1);
                size++;
                System.arraycopy(row, 0, signs, spot * MOST_LENGTH, length);
                lengths[spot] = length;
            }
            uses[spot] = use;
            return size;
        }

        int remove(int i) {
            move(i + 1, i);
            size--;
            return size;
        }

        private void move(int from, int to) {
            int moved = size - from;
            System.arraycopy(signs, from * MOST_LENGTH, signs, to * MOST_LENGTH, moved * MOST_LENGTH);
            System.arraycopy(lengths, from, lengths, to, moved);
            System.arraycopy(uses, from, uses, to, moved);
        }

        private int compare(int i, int[] row, int length) {
            int shared = Math.min(lengths[i], length);
            for (int k = 0; k < shared; k++) {
                if (signOf(i, k) != row[k]) {
                    return Integer.compare(signOf(i, k), row[k]);
                }
            }
            return Integer.compare(lengths[i], length);
        }

        /** How many signs word i begins with that the word ahead of it begins with, too. */
        private int sharedWithFormer(int i) {
            if (i == 0) {
                return 0;
            }
            int shared = 0;
            while (shared < lengths[i] && shared < lengths[i - 1] && signOf(i, shared) == signOf(i - 1, shared)) {
                shared++;
            }
            return shared;
        }

        /** Notes which words the machine takes, and answers how many beginnings were stepped to. */
        int follow(Machine machine) {
            int stepsDone = 0;
            stateBehind[0] = machine.states == 0 ? NONE : 0;
            for (int i = 0; i < size; i++) {
                for (int k = sharedWithFormer(i); k < lengths[i]; k++) {
                    int state = stateBehind[k];
                    stateBehind[k + 1] = state == NONE ? NONE : machine.after(state, signOf(i, k) - LOWEST_SIGN);
                    stepsDone += state == NONE ? 0 : 1;
                }
                int last = stateBehind[lengths[i]];
                isTaken[i] = last != NONE && machine.taking[last];
            }
            return stepsDone;
        }

        /** The least number of edits between a row's part and word j. */
        int edits(int[] row, int start, int length, int j, boolean swaps) {
            for (int k = 0; k <= lengths[j]; k++) {
                fresh[k] = k;
            }
            for (int i = 0; i < length; i++) {
                turnRows();
                fresh[0] = i + 1;
                for (int k = 0; k < lengths[j]; k++) {
                    int sign = row[start + i];
                    int fewest = old[k] + (sign == signOf(j, k) ? 0 : 1);
                    fewest = Math.min(fewest, 1 + Math.min(old[k + 1], fresh[k]));
                    if (swaps && i > 0 && k > 0 && sign == signOf(j, k - 1) && row[start + i - 1] == signOf(j, k)) {
                        fewest = Math.min(fewest, older[k - 1] + 1);
                    }
                    fresh[k + 1] = fewest;
                }
            }
            return fresh[lengths[j]];
        }

        private void turnRows() {
            int[] free = older;
            older = old;
            old = fresh;
            fresh = free;
        }

        void rankBy(int[] row, int length, boolean swaps) {
            System.arraycopy(row, 0, target, 0, length);
            targetLength = length;
            targetSwaps = swaps;
            hasTarget = true;
        }

        /** How many words the machine takes; ranked has their numbers, the best one first. */
        int rankTaken(Machine machine) {
            follow(machine);
            int found = 0;
            for (int i = 0; i < size; i++) {
                if (isTaken[i]) {
                    rank(i, found);
                    found++;
                }
            }
            return found;
        }

        /** Words come by rising number, so one that is equal by edits and use stays behind. */
        private void rank(int i, int found) {
            int needed = hasTarget ? edits(target, 0, targetLength, i, targetSwaps) : 0;
            int spot = found;
            while (spot > 0 && isBetter(i, needed, spot - 1)) {
                ranked[spot] = ranked[spot - 1];
                rankedEdits[spot] = rankedEdits[spot - 1];
                spot--;
            }
            ranked[spot] = i;
            rankedEdits[spot] = needed;
        }

        private boolean isBetter(int i, int needed, int spot) {
            if (needed != rankedEdits[spot]) {
                return needed < rankedEdits[spot];
            }
            return uses[i] > uses[ranked[spot]];
        }
    }

    /** A least machine. Signs that lead to the same state from every state may share a column. */
    private static final class Machine {
        int states;
        final boolean[] taking = new boolean[MOST_STATES];
        int columns = 1;
        final int[] columnOf = new int[SIGNS];
        private final int[] firstSign = new int[SIGNS];
        private final int[] signsIn = new int[SIGNS];
        private int[] to = new int[SIGNS];
        private long[] ways = new long[MOST_STATES];
        private long[] formerWays = new long[MOST_STATES];
        private final int[] cameFrom = new int[MOST_STATES];
        private final int[] cameBy = new int[MOST_STATES];

        boolean has(int state) {
            return state >= 0 && state < states;
        }

        int after(int state, int sign) {
            return to[state * columns + columnOf[sign]];
        }

        /** The rows of what was there are not kept: all of them are written anew. */
        void begin(int stateCount, int columnCount, int[] columnOfSign) {
            states = stateCount;
            columns = columnCount;
            to = roomFor(to, stateCount * columnCount);
            Arrays.fill(signsIn, 0);
            for (int sign = SIGNS - 1; sign >= 0; sign--) {
                int column = columnOfSign[sign];
                columnOf[sign] = column;
                firstSign[column] = sign;
                signsIn[column]++;
            }
        }

        void lead(int state, int column, int nextState) {
            to[state * columns + column] = nextState;
        }

        void copy(Machine from) {
            begin(from.states, from.columns, from.columnOf);
            System.arraycopy(from.to, 0, to, 0, states * columns);
            for (int state = 0; state < states; state++) {
                taking[state] = from.taking[state];
            }
        }

        /** Least machines are numbered by one rule, so they take the same words only if all is equal. */
        boolean isLike(Machine other) {
            if (states != other.states) {
                return false;
            }
            for (int state = 0; state < states; state++) {
                if (taking[state] != other.taking[state] || !leadsLike(other, state)) {
                    return false;
                }
            }
            return true;
        }

        private boolean leadsLike(Machine other, int state) {
            for (int sign = 0; sign < SIGNS; sign++) {
                if (after(state, sign) != other.after(state, sign)) {
                    return false;
                }
            }
            return true;
        }

        long wordsOfLength(int length) {
            if (states == 0) {
                return 0;
            }
            for (int state = 0; state < states; state++) {
                ways[state] = taking[state] ? 1 : 0;
            }
            for (int round = 0; round < length; round++) {
                long[] free = formerWays;
                formerWays = ways;
                ways = free;
                for (int state = 0; state < states; state++) {
                    ways[state] = waysFrom(state);
                }
            }
            return ways[0];
        }

        private long waysFrom(int state) {
            long sum = 0;
            for (int column = 0; column < columns; column++) {
                int nextState = to[state * columns + column];
                sum += nextState == NONE ? 0 : signsIn[column] * formerWays[nextState];
            }
            return sum;
        }

        /**
         * States are numbered as shortest words in their order come to them, so the first that
         * takes is the end of the word that is sought. There must be a state.
         */
        int writeShortest(int[] row) {
            noteOrigins();
            int last = 0;
            while (last < states - 1 && !taking[last]) {
                last++;
            }
            int length = 0;
            for (int state = last; state > 0 && length < states; state = cameFrom[state]) {
                length++;
            }
            int state = last;
            for (int spot = length - 1; spot >= 0; spot--) {
                row[spot] = firstSign[cameBy[state]] + LOWEST_SIGN;
                state = cameFrom[state];
            }
            return length;
        }

        /** A state's origin always has a lower number. */
        private void noteOrigins() {
            int known = 0;
            for (int state = 0; state < states; state++) {
                for (int column = 0; column < columns; column++) {
                    int nextState = to[state * columns + column];
                    if (nextState > known) {
                        known = nextState;
                        cameFrom[nextState] = state;
                        cameBy[nextState] = column;
                    }
                }
            }
        }
    }

    /** What tells sets: the first one, from each the next one by a sign, and which are accepted. */
    private abstract static class Question {
        /** Signs whose two marks are equal step alike from every set. */
        final long[] markLow = new long[SIGNS];
        final long[] markHigh = new long[SIGNS];
        /** The set that was told last: 128 things that are in it or not, or a number. */
        long low, high;

        abstract void tellFirst();

        /** The steps that are asked for from now on go out from this set. */
        abstract void leave(long fromLow, long fromHigh);

        abstract void tellNext(int sign);

        abstract boolean takes(long setLow, long setHigh);
    }

    /** Pairs of (signs dealt with, edits): a band of bits for each number of edits; high: in the midst of a swap. */
    private static final class Near extends Question {
        private static final int BAND = MOST_LENGTH + 1;
        private static final long ONE_BAND = (1L << BAND) - 1;
        private int length, edits;
        private boolean swaps;
        private long free, unfinished;
        private long fromLow, fromHigh;

        void ask(int[] row, int rowLength, int mostEdits, boolean withSwaps, int held) {
            length = rowLength;
            edits = mostEdits;
            swaps = withSwaps;
            unfinished = (1L << length) - 1;
            free = ONE_BAND & ~((1L << held) - 1);
            Arrays.fill(markLow, 0);
            for (int i = 0; i < length; i++) {
                markLow[row[i] - LOWEST_SIGN] |= 1L << i;
            }
        }

        void tellFirst() {
            low = 1;
            high = 0;
            addMissing();
        }

        void leave(long setLow, long setHigh) {
            fromLow = setLow;
            fromHigh = setHigh;
        }

        void tellNext(int sign) {
            long fits = markLow[sign];
            low = 0;
            high = 0;
            for (int d = 0; d <= edits; d++) {
                int band = d * BAND;
                long here = (fromLow >>> band) & ONE_BAND;
                long midst = (fromHigh >>> band) & ONE_BAND;
                low |= (((here & fits) << 1) | ((midst & fits) << 2)) << band;
                if (d < edits) {
                    long edited = here & free;
                    low |= (edited | ((edited & unfinished) << 1)) << (band + BAND);
                    high |= swaps ? (edited & (fits >>> 1)) << (band + BAND) : 0;
                }
            }
            addMissing();
        }

        /** Bands rise, so what is added to one is there when the next one's turn comes. */
        private void addMissing() {
            for (int d = 0; d < edits; d++) {
                long here = (low >>> (d * BAND)) & ONE_BAND;
                low |= ((here & free & unfinished) << 1) << ((d + 1) * BAND);
            }
        }

        boolean takes(long setLow, long setHigh) {
            for (int d = 0; d <= edits; d++) {
                if (((setLow >>> (d * BAND + length)) & 1) != 0) {
                    return true;
                }
            }
            return false;
        }
    }

    /** Places of a row in which * is any row and ? any sign. */
    private static final class Wild extends Question {
        private static final int MOST_TEXT = 40;
        int faultAt;
        private int places;
        private long stars;
        private long from;

        /** 0, or the fault; its place is faultAt then. */
        int read(int[] text, int length) {
            if (length > MOST_TEXT) {
                faultAt = MOST_TEXT;
                return TOO_LARGE;
            }
            places = 0;
            stars = 0;
            Arrays.fill(markLow, 0);
            for (int at = 0; at < length; at++) {
                boolean isPlain = text[at] == '\\';
                if (isPlain) {
                    at++;
                }
                if (at == length) {
                    faultAt = length;
                    return WRONG;
                }
                readSign(text[at], isPlain);
            }
            return 0;
        }

        private void readSign(int code, boolean isPlain) {
            long bit = 1L << places;
            places++;
            if (code == '*' && !isPlain) {
                stars |= bit;
            } else if (code == '?' && !isPlain) {
                for (int sign = 0; sign < SIGNS; sign++) {
                    markLow[sign] |= bit;
                }
            } else {
                markLow[code - LOWEST_SIGN] |= bit;
            }
        }

        void tellFirst() {
            low = 1;
            high = 0;
            passStars();
        }

        void leave(long setLow, long setHigh) {
            from = setLow;
        }

        void tellNext(int sign) {
            low = ((from & markLow[sign]) << 1) | (from & stars);
            high = 0;
            passStars();
        }

        /** One star may stand behind another, so once is not enough. */
        private void passStars() {
            for (int round = 0; round < MOST_TEXT; round++) {
                long wider = low | ((low & stars) << 1);
                if (wider == low) {
                    return;
                }
                low = wider;
            }
        }

        boolean takes(long setLow, long setHigh) {
            return ((setLow >>> places) & 1) != 0;
        }
    }

    /** How far a word is like the lower and the upper one's beginning, or surely above, below. */
    private static final class Between extends Question {
        private static final int SURE = MOST_LENGTH + 1, OUT = MOST_LENGTH + 2, RADIX = 32;
        private final int[] lower = new int[MOST_LENGTH];
        private final int[] upper = new int[MOST_LENGTH];
        private int lowerLength, upperLength;
        private boolean lowerIn, upperIn;
        private int lowerFrom, upperFrom;

        void ask(int[] row, int n, int rowLength, boolean isLowerIn, boolean isUpperIn) {
            lowerLength = n;
            upperLength = rowLength - n;
            lowerIn = isLowerIn;
            upperIn = isUpperIn;
            for (int i = 0; i < lowerLength; i++) {
                lower[i] = row[i] - LOWEST_SIGN;
            }
            for (int i = 0; i < upperLength; i++) {
                upper[i] = row[n + i] - LOWEST_SIGN;
            }
            markSigns();
        }

        /** Signs of the words stand alone; others step alike if none of those lies between them. */
        private void markSigns() {
            Arrays.fill(markHigh, 0);
            for (int i = 0; i < lowerLength; i++) {
                markHigh[lower[i]] = 1;
            }
            for (int i = 0; i < upperLength; i++) {
                markHigh[upper[i]] = 1;
            }
            long below = 0;
            for (int sign = 0; sign < SIGNS; sign++) {
                markLow[sign] = below;
                below += markHigh[sign];
            }
        }

        void tellFirst() {
            tell(0, 0);
        }

        private void tell(int lowerTo, int upperTo) {
            boolean isOut = lowerTo == OUT || upperTo == OUT;
            low = isOut ? OUT * RADIX + OUT : lowerTo * RADIX + upperTo;
            high = 0;
        }

        void leave(long setLow, long setHigh) {
            lowerFrom = (int) setLow / RADIX;
            upperFrom = (int) setLow % RADIX;
        }

        void tellNext(int sign) {
            tell(lowerNext(sign), upperNext(sign));
        }

        private int lowerNext(int sign) {
            if (lowerFrom >= SURE) {
                return lowerFrom;
            }
            if (lowerFrom >= lowerLength || sign > lower[lowerFrom]) {
                return SURE;
            }
            return sign == lower[lowerFrom] ? lowerFrom + 1 : OUT;
        }

        private int upperNext(int sign) {
            if (upperFrom >= SURE) {
                return upperFrom;
            }
            if (upperFrom >= upperLength || sign > upper[upperFrom]) {
                return OUT;
            }
            return sign == upper[upperFrom] ? upperFrom + 1 : SURE;
        }

        boolean takes(long setLow, long setHigh) {
            int lowerTo = (int) setLow / RADIX;
            int upperTo = (int) setLow % RADIX;
            if (lowerTo == OUT || upperTo == OUT) {
                return false;
            }
            boolean isAbove = lowerTo == SURE || (lowerIn && lowerTo == lowerLength);
            boolean isBelow = upperTo == SURE || upperTo < upperLength || upperIn;
            return isAbove && isBelow;
        }
    }

    /** Pairs of a state of each of two machines; no state is NONE. */
    private static final class Pair extends Question {
        private static final int RADIX = 512;
        private final Machine one;
        private final Machine two;
        private int what;
        private int oneFrom, twoFrom;

        Pair(Machine one, Machine two) {
            this.one = one;
            this.two = two;
        }

        void ask(int whatIsMade) {
            what = whatIsMade;
            for (int sign = 0; sign < SIGNS; sign++) {
                markLow[sign] = one.columnOf[sign];
                markHigh[sign] = what == TURNED ? 0 : two.columnOf[sign];
            }
        }

        void tellFirst() {
            tell(one.has(0) ? 0 : NONE, two.has(0) && what != TURNED ? 0 : NONE);
        }

        private void tell(int oneState, int twoState) {
            low = (oneState - NONE) * RADIX + (twoState - NONE);
            high = 0;
        }

        void leave(long setLow, long setHigh) {
            oneFrom = (int) setLow / RADIX + NONE;
            twoFrom = (int) setLow % RADIX + NONE;
        }

        void tellNext(int sign) {
            int oneTo = one.has(oneFrom) ? one.after(oneFrom, sign) : NONE;
            int twoTo = two.has(twoFrom) ? two.after(twoFrom, sign) : NONE;
            tell(oneTo, twoTo);
        }

        boolean takes(long setLow, long setHigh) {
            int oneState = (int) setLow / RADIX + NONE;
            int twoState = (int) setLow % RADIX + NONE;
            boolean oneTakes = one.has(oneState) && one.taking[oneState];
            boolean twoTakes = two.has(twoState) && two.taking[twoState];
            switch (what) {
                case JOINED:
                    return oneTakes || twoTakes;
                case MET:
                    return oneTakes && twoTakes;
                case WITHOUT:
                    return oneTakes && !twoTakes;
                default:
                    return !oneTakes;
            }
        }
    }

    /** A part of a grammar: the places that may come first and last in it. */
    private static final class Piece {
        long firstLow, firstHigh, lastLow, lastHigh;
        boolean takesEmpty;
        /** How many places there were ahead of its own. */
        int start;

        void clear(boolean isEmptyTaken, int startsAt) {
            firstLow = 0;
            firstHigh = 0;
            lastLow = 0;
            lastHigh = 0;
            takesEmpty = isEmptyTaken;
            start = startsAt;
        }

        void copy(Piece from) {
            firstLow = from.firstLow;
            firstHigh = from.firstHigh;
            lastLow = from.lastLow;
            lastHigh = from.lastHigh;
            takesEmpty = from.takesEmpty;
            start = from.start;
        }

        void widen(Piece other) {
            firstLow |= other.firstLow;
            firstHigh |= other.firstHigh;
            lastLow |= other.lastLow;
            lastHigh |= other.lastHigh;
            takesEmpty |= other.takesEmpty;
        }

        void shift(int by) {
            firstHigh = shiftedHigh(firstLow, firstHigh, by);
            firstLow = shiftedLow(firstLow, by);
            lastHigh = shiftedHigh(lastLow, lastHigh, by);
            lastLow = shiftedLow(lastLow, by);
        }

        static long shiftedLow(long low, int by) {
            return by < 64 ? low << by : 0;
        }

        /** Java shifts by 64 as by 0, so 0 and 64 and more stand apart. */
        static long shiftedHigh(long low, long high, int by) {
            if (by == 0) {
                return high;
            }
            return by < 64 ? (high << by) | (low >>> (64 - by)) : low << (by - 64);
        }
    }

    /**
     * A grammar's text becomes places; for each, which may stand behind it. A text may have more
     * places than are kept while it is read, as {0} may take them away again: those share one slot,
     * and what is noted of them is never used.
     */
    private static final class Regular extends Question {
        private static final int MOST_TEXT = 200, MOST_DEEP = 12, MOST_PLACES = 120, MOST_TIMES = 20;
        private static final int BEGINNING = 120, SPARE = 121, SLOTS = 128;
        int at;
        private int[] text = new int[0];
        private int length, fault, depth, places;
        private boolean hasUnit;
        private final long[] signsLow = new long[SLOTS];
        private final long[] signsHigh = new long[SLOTS];
        private final long[] behindLow = new long[SLOTS];
        private final long[] behindHigh = new long[SLOTS];
        private final Piece[] rows = new Piece[MOST_DEEP + 1];
        private final Piece[] choices = new Piece[MOST_DEEP + 1];
        private final Piece unit = new Piece();
        private final Piece model = new Piece();
        private final int[] listed = new int[SLOTS];
        private long reachedLow, reachedHigh;

        Regular() {
            for (int i = 0; i <= MOST_DEEP; i++) {
                rows[i] = new Piece();
                choices[i] = new Piece();
            }
        }

        /** 0, or the fault; its place is at then. */
        int read(int[] row, int rowLength) {
            text = row;
            length = rowLength;
            at = 0;
            fault = 0;
            depth = 0;
            places = 0;
            hasUnit = false;
            if (length > MOST_TEXT) {
                at = MOST_TEXT;
                return TOO_LARGE;
            }
            openChoices();
            for (int turn = 0; turn < MOST_TEXT && at < length && fault == 0; turn++) {
                readPart();
            }
            if (fault == 0) {
                finish();
            }
            return fault;
        }

        private boolean isAt(int code) {
            return at < length && text[at] == code;
        }

        private void readPart() {
            int code = text[at];
            boolean isRepeat = code == '*' || code == '+' || code == '?' || code == '{';
            if (isRepeat && !hasUnit) {
                fault = WRONG;
                return;
            }
            switch (code) {
                case '*':
                case '+':
                case '?':
                    readRepeat();
                    break;
                case '{':
                    readTimes();
                    break;
                case '(':
                    openGroup();
                    break;
                case ')':
                    closeGroup();
                    break;
                case '|':
                    at++;
                    settle();
                    closeRow();
                    break;
                case '}':
                case ']':
                    fault = WRONG;
                    break;
                default:
                    settle();
                    readPlace();
                    break;
            }
        }

        /** The unit waits, as repeats may come behind it, until something else does. */
        private void settle() {
            if (hasUnit) {
                lead(rows[depth], unit);
                append(rows[depth], unit, unit.takesEmpty);
            }
            hasUnit = false;
        }

        private void openChoices() {
            choices[depth].clear(false, places);
            rows[depth].clear(true, places);
        }

        /** The row's last unit must have been settled. */
        private void closeRow() {
            choices[depth].widen(rows[depth]);
            rows[depth].clear(true, places);
        }

        private void openGroup() {
            at++;
            if (depth == MOST_DEEP) {
                fault = TOO_LARGE;
                return;
            }
            settle();
            depth++;
            openChoices();
        }

        private void closeGroup() {
            if (depth == 0) {
                fault = WRONG;
                return;
            }
            at++;
            settle();
            closeRow();
            unit.copy(choices[depth]);
            hasUnit = true;
            depth--;
        }

        private void readPlace() {
            int slot = places < MOST_PLACES ? places : SPARE;
            signsLow[slot] = 0;
            signsHigh[slot] = 0;
            behindLow[slot] = 0;
            behindHigh[slot] = 0;
            if (isAt('[')) {
                readSpans(slot);
            } else if (isAt('.')) {
                at++;
                addSigns(slot, LOWEST_SIGN, LOWEST_SIGN + SIGNS - 1);
            } else {
                int code = readMember();
                addSigns(slot, code, code);
            }
            hasUnit = true;
            unit.clear(false, places);
            unit.firstLow = slot < 64 ? 1L << slot : 0;
            unit.firstHigh = slot < 64 ? 0 : 1L << (slot - 64);
            unit.lastLow = unit.firstLow;
            unit.lastHigh = unit.firstHigh;
            places++;
        }

        private void addSigns(int slot, int from, int to) {
            for (int code = from; code <= to; code++) {
                int sign = code - LOWEST_SIGN;
                signsLow[slot] |= sign < 64 ? 1L << sign : 0;
                signsHigh[slot] |= sign < 64 ? 0 : 1L << (sign - 64);
            }
        }

        private void readSpans(int slot) {
            at++;
            boolean isTurned = isAt('^');
            if (isTurned) {
                at++;
            }
            boolean isOpen = true;
            for (int turn = 0; turn < MOST_TEXT && isOpen && fault == 0; turn++) {
                int from = readMember();
                int to = from;
                if (fault == 0 && isAt('-')) {
                    at++;
                    to = readMember();
                }
                if (fault == 0 && to < from) {
                    fault = WRONG;
                }
                addSigns(slot, from, to);
                isOpen = !isAt(']');
            }
            if (fault == 0) {
                at++;
            }
            if (isTurned) {
                signsLow[slot] = ~signsLow[slot];
                signsHigh[slot] = ~signsHigh[slot];
            }
        }

        /** Outside of [ ] the signs that mean something else never come here. */
        private int readMember() {
            boolean isPlain = isAt('\\');
            if (isPlain) {
                at++;
            }
            if (at >= length || (isAt(']') && !isPlain)) {
                fault = WRONG;
                return LOWEST_SIGN;
            }
            at++;
            return text[at - 1];
        }

        private void readRepeat() {
            int kind = text[at];
            at++;
            if (kind != '?') {
                lead(unit, unit);
            }
            unit.takesEmpty |= kind != '+';
        }

        private void readTimes() {
            at++;
            int fewest = readNumber();
            int most = fewest;
            boolean isEndless = false;
            if (fault == 0 && isAt(',')) {
                at++;
                isEndless = isAt('}');
                most = isEndless ? fewest + 1 : readNumber();
                if (fault == 0 && most < fewest) {
                    fault = WRONG;
                }
            }
            if (fault == 0 && !isAt('}')) {
                fault = WRONG;
            }
            if (fault != 0) {
                return;
            }
            at++;
            if ((places - unit.start) * most > MOST_PLACES) {
                fault = TOO_LARGE;
                return;
            }
            repeat(fewest, most, isEndless);
        }

        private int readNumber() {
            int value = 0;
            int digits = 0;
            while (digits < 2 && at < length && text[at] >= '0' && text[at] <= '9') {
                value = value * 10 + text[at] - '0';
                at++;
                digits++;
            }
            if (digits == 0 || value > MOST_TIMES) {
                fault = WRONG;
            }
            return value;
        }

        /** Without places a unit takes the empty word alone, however often it is repeated. */
        private void repeat(int fewest, int most, boolean isEndless) {
            int start = unit.start;
            int size = places - start;
            if (size == 0) {
                return;
            }
            places = start + size * most;
            for (int place = start + size; place < places && place < MOST_PLACES; place++) {
                copyPlace(place - size, place, size);
            }
            model.copy(unit);
            unit.clear(true, start);
            for (int time = 0; time < most; time++) {
                if (isEndless && time == most - 1) {
                    lead(model, model);
                }
                lead(unit, model);
                append(unit, model, model.takesEmpty || time >= fewest);
                model.shift(size);
            }
        }

        private void copyPlace(int from, int to, int by) {
            signsLow[to] = signsLow[from];
            signsHigh[to] = signsHigh[from];
            behindLow[to] = Piece.shiftedLow(behindLow[from], by);
            behindHigh[to] = Piece.shiftedHigh(behindLow[from], behindHigh[from], by);
        }

        private static void append(Piece row, Piece piece, boolean mayBeMissing) {
            if (row.takesEmpty) {
                row.firstLow |= piece.firstLow;
                row.firstHigh |= piece.firstHigh;
            }
            row.lastLow = piece.lastLow | (mayBeMissing ? row.lastLow : 0);
            row.lastHigh = piece.lastHigh | (mayBeMissing ? row.lastHigh : 0);
            row.takesEmpty &= mayBeMissing;
        }

        /** Behind each last place of one piece the first ones of the other may come. */
        private void lead(Piece from, Piece to) {
            int found = list(from.lastLow, from.lastHigh);
            for (int i = 0; i < found; i++) {
                behindLow[listed[i]] |= to.firstLow;
                behindHigh[listed[i]] |= to.firstHigh;
            }
        }

        /** How many places there are in a set; listed has them then. */
        private int list(long setLow, long setHigh) {
            int found = 0;
            long rest = setLow;
            for (; rest != 0 && found < 64; found++) {
                listed[found] = Long.bitCount((rest & -rest) - 1);
                rest &= rest - 1;
            }
            rest = setHigh;
            for (; rest != 0 && found < SLOTS; found++) {
                listed[found] = 64 + Long.bitCount((rest & -rest) - 1);
                rest &= rest - 1;
            }
            return found;
        }

        private void finish() {
            if (depth > 0) {
                fault = WRONG;
                return;
            }
            if (places > MOST_PLACES) {
                fault = TOO_LARGE;
                return;
            }
            settle();
            closeRow();
            behindLow[BEGINNING] = choices[0].firstLow;
            behindHigh[BEGINNING] = choices[0].firstHigh;
            choices[0].lastHigh |= choices[0].takesEmpty ? 1L << (BEGINNING - 64) : 0;
            for (int sign = 0; sign < SIGNS; sign++) {
                markSign(sign);
            }
        }

        /** A sign's marks are the places that have it. */
        private void markSign(int sign) {
            markLow[sign] = 0;
            markHigh[sign] = 0;
            for (int place = 0; place < places; place++) {
                long row = sign < 64 ? signsLow[place] : signsHigh[place];
                long bit = (row >>> (sign & 63)) & 1;
                markLow[sign] |= place < 64 ? bit << place : 0;
                markHigh[sign] |= place < 64 ? 0 : bit << (place - 64);
            }
        }

        void tellFirst() {
            low = 0;
            high = 1L << (BEGINNING - 64);
        }

        void leave(long setLow, long setHigh) {
            reachedLow = 0;
            reachedHigh = 0;
            int found = list(setLow, setHigh);
            for (int i = 0; i < found; i++) {
                reachedLow |= behindLow[listed[i]];
                reachedHigh |= behindHigh[listed[i]];
            }
        }

        void tellNext(int sign) {
            low = reachedLow & markLow[sign];
            high = reachedHigh & markHigh[sign];
        }

        boolean takes(long setLow, long setHigh) {
            return ((setLow & choices[0].lastLow) | (setHigh & choices[0].lastHigh)) != 0;
        }
    }

    /** The sets that a question comes to, numbered as they are come to, and the steps between them. */
    private static final class Sets {
        private static final int SLOTS = 4096, SLOT_BITS = 12;
        int size;
        int columns;
        final int[] columnOf = new int[SIGNS];
        final boolean[] taking = new boolean[MOST_PAIRS];
        int[] to = new int[1024];
        private final int[] firstSign = new int[SIGNS];
        private final long[] lows = new long[MOST_PAIRS];
        private final long[] highs = new long[MOST_PAIRS];
        /** Number of a set and 1, by its hash; twice as many as sets, so that one is always free. */
        private final int[] slots = new int[SLOTS];

        /** Whether there are no more than the limit, which is MOST_PAIRS at most. */
        boolean gather(Question question, int limit) {
            groupSigns(question);
            Arrays.fill(slots, 0);
            size = 0;
            question.tellFirst();
            numberOf(question, limit);
            for (int set = 0; set < size && set < limit; set++) {
                to = roomFor(to, (set + 1) * columns);
                question.leave(lows[set], highs[set]);
                for (int column = 0; column < columns; column++) {
                    question.tellNext(firstSign[column]);
                    int reached = numberOf(question, limit);
                    if (reached == NONE) {
                        return false;
                    }
                    to[set * columns + column] = reached;
                }
            }
            return true;
        }

        private void groupSigns(Question question) {
            columns = 0;
            for (int sign = 0; sign < SIGNS; sign++) {
                int column = 0;
                while (column < columns && !isAlike(question, sign, firstSign[column])) {
                    column++;
                }
                if (column == columns) {
                    firstSign[column] = sign;
                    columns++;
                }
                columnOf[sign] = column;
            }
        }

        private static boolean isAlike(Question question, int sign, int other) {
            return question.markLow[sign] == question.markLow[other]
                && question.markHigh[sign] == question.markHigh[other];
        }

        /** The number of the set that the question told; NONE: it is new, and one too many. */
        private int numberOf(Question question, int limit) {
            long low = question.low;
            long high = question.high;
            int slot = slotOf(low, high);
            for (int tries = 0; tries < SLOTS && slots[slot] != 0; tries++) {
                int set = slots[slot] - 1;
                if (lows[set] == low && highs[set] == high) {
                    return set;
                }
                slot = (slot + 1) & (SLOTS - 1);
            }
            if (size == limit) {
                return NONE;
            }
            lows[size] = low;
            highs[size] = high;
            taking[size] = question.takes(low, high);
            size++;
            slots[slot] = size;
            return size - 1;
        }

        private static int slotOf(long low, long high) {
            long mixed = (low * 0x9E3779B97F4A7C15L + high) * 0xC2B2AE3D27D4EB4FL;
            mixed = (mixed ^ (mixed >>> 29)) * 0x9E3779B97F4A7C15L;
            return (int) (mixed >>> (64 - SLOT_BITS));
        }
    }

    /**
     * Sets are split into blocks until from all sets of a block the same words are accepted: by the
     * steps that lead into one block after the other, and of two halves into the smaller one alone.
     */
    private static final class Least {
        /** One block beside the states may be there, from which nothing is accepted. */
        private static final int MOST_BLOCKS = MOST_STATES + 1;
        private static final int STEP_RADIX = 128;
        private final Sets sets;
        private final int[] order = new int[MOST_PAIRS];
        private final int[] spotOf = new int[MOST_PAIRS];
        private final int[] blockOf = new int[MOST_PAIRS];
        /** Steps into a set, by rising column: where they come from and by which column. */
        private int[] steps = new int[1024];
        private final int[] stepsStart = new int[MOST_PAIRS + 1];
        private final int[] stepsDone = new int[MOST_PAIRS];
        private final int[] splitter = new int[MOST_PAIRS];
        private final int[] blockStart = new int[MOST_BLOCKS];
        private final int[] blockSize = new int[MOST_BLOCKS];
        private final int[] chosen = new int[MOST_BLOCKS];
        private final boolean[] isWaiting = new boolean[MOST_BLOCKS];
        private final int[] waiting = new int[MOST_BLOCKS];
        private final int[] touched = new int[MOST_BLOCKS];
        private final int[] stateOf = new int[MOST_BLOCKS];
        private int blocks, waitingCount, touchedCount, deadBlock;
        private boolean isTooMany;

        Least(Sets sets) {
            this.sets = sets;
        }

        /** Whether the least machine has not too many states. */
        boolean reduce() {
            noteSteps();
            startBlocks();
            for (int round = 0; round < MOST_BLOCKS && waitingCount > 0 && !isTooMany; round++) {
                waitingCount--;
                splitBy(waiting[waitingCount]);
            }
            if (isTooMany) {
                return false;
            }
            findDeadBlock();
            return blocks - (deadBlock == NONE ? 0 : 1) <= MOST_STATES;
        }

        private void noteSteps() {
            int all = sets.size * sets.columns;
            steps = roomFor(steps, all);
            Arrays.fill(stepsStart, 0);
            for (int i = 0; i < all; i++) {
                stepsStart[sets.to[i] + 1]++;
            }
            for (int set = 0; set < sets.size; set++) {
                stepsStart[set + 1] += stepsStart[set];
                stepsDone[set] = stepsStart[set];
            }
            for (int column = 0; column < sets.columns; column++) {
                for (int set = 0; set < sets.size; set++) {
                    int reached = sets.to[set * sets.columns + column];
                    steps[stepsDone[reached]] = set * STEP_RADIX + column;
                    stepsDone[reached]++;
                }
            }
        }

        private void startBlocks() {
            blocks = 0;
            waitingCount = 0;
            isTooMany = false;
            int takingCount = placeSets(0, true);
            placeSets(takingCount, false);
            startBlock(0, takingCount);
            startBlock(takingCount, sets.size - takingCount);
            if (blocks == 2) {
                queue(blockSize[0] <= blockSize[1] ? 0 : 1);
            }
        }

        /** Answers the spot behind the last one that was used. */
        private int placeSets(int firstSpot, boolean isTaking) {
            int spot = firstSpot;
            for (int set = 0; set < sets.size; set++) {
                if (sets.taking[set] == isTaking) {
                    order[spot] = set;
                    spotOf[set] = spot;
                    spot++;
                }
            }
            return spot;
        }

        private void startBlock(int start, int size) {
            if (size == 0) {
                return;
            }
            blockStart[blocks] = start;
            blockSize[blocks] = size;
            chosen[blocks] = 0;
            isWaiting[blocks] = false;
            for (int spot = start; spot < start + size; spot++) {
                blockOf[order[spot]] = blocks;
            }
            blocks++;
        }

        private void queue(int block) {
            isWaiting[block] = true;
            waiting[waitingCount] = block;
            waitingCount++;
        }

        /** The block's sets are noted first, for it may be split itself. */
        private void splitBy(int block) {
            isWaiting[block] = false;
            int size = blockSize[block];
            for (int i = 0; i < size; i++) {
                splitter[i] = order[blockStart[block] + i];
                stepsDone[splitter[i]] = stepsStart[splitter[i]];
            }
            for (int column = 0; column < sets.columns && !isTooMany; column++) {
                touchedCount = 0;
                for (int i = 0; i < size; i++) {
                    chooseInto(splitter[i], column);
                }
                for (int i = 0; i < touchedCount && !isTooMany; i++) {
                    split(touched[i]);
                }
            }
        }

        private void chooseInto(int reached, int column) {
            int step = stepsDone[reached];
            int stop = stepsStart[reached + 1];
            while (step < stop && steps[step] % STEP_RADIX == column) {
                choose(steps[step] / STEP_RADIX);
                step++;
            }
            stepsDone[reached] = step;
        }

        /** Chosen sets stand first in their block. By one column a set is chosen once at most. */
        private void choose(int set) {
            int block = blockOf[set];
            int spot = blockStart[block] + chosen[block];
            int former = order[spot];
            int formerSpot = spotOf[set];
            order[spot] = set;
            spotOf[set] = spot;
            order[formerSpot] = former;
            spotOf[former] = formerSpot;
            if (chosen[block] == 0) {
                touched[touchedCount] = block;
                touchedCount++;
            }
            chosen[block]++;
        }

        private void split(int block) {
            int start = blockStart[block];
            int size = chosen[block];
            chosen[block] = 0;
            if (size == blockSize[block]) {
                return;
            }
            if (blocks == MOST_BLOCKS) {
                isTooMany = true;
                return;
            }
            blockStart[block] += size;
            blockSize[block] -= size;
            startBlock(start, size);
            boolean isFormerSmaller = blockSize[block] < size;
            queue(!isWaiting[block] && isFormerSmaller ? block : blocks - 1);
        }

        private void findDeadBlock() {
            deadBlock = NONE;
            for (int block = 0; block < blocks; block++) {
                if (isDead(block)) {
                    deadBlock = block;
                }
            }
        }

        private boolean isDead(int block) {
            int set = order[blockStart[block]];
            boolean isDead = !sets.taking[set];
            for (int column = 0; column < sets.columns && isDead; column++) {
                isDead = blockOf[sets.to[set * sets.columns + column]] == block;
            }
            return isDead;
        }

        /** States are numbered as they are come to; the list of touched blocks is free for the queue. */
        void writeTo(Machine machine) {
            machine.begin(blocks - (deadBlock == NONE ? 0 : 1), sets.columns, sets.columnOf);
            Arrays.fill(stateOf, NONE);
            touchedCount = 0;
            if (machine.states > 0) {
                meet(blockOf[0]);
            }
            for (int state = 0; state < touchedCount && state < machine.states; state++) {
                int set = order[blockStart[touched[state]]];
                machine.taking[state] = sets.taking[set];
                for (int column = 0; column < sets.columns; column++) {
                    int reached = blockOf[sets.to[set * sets.columns + column]];
                    machine.lead(state, column, meet(reached));
                }
            }
        }

        private int meet(int block) {
            if (block == deadBlock) {
                return NONE;
            }
            if (stateOf[block] == NONE) {
                stateOf[block] = touchedCount;
                touched[touchedCount] = block;
                touchedCount++;
            }
            return stateOf[block];
        }
    }
}
