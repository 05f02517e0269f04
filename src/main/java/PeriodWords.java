import java.util.NoSuchElementException;

/** Endless words of 0 and 1 that come back, each kept in its shortest form. */
public final class PeriodWords {
    public static final int NONE = -1;

    private static final int MOST_WORDS = 40;
    private static final int MOST_GIVEN_BITS = 30;
    private static final int MOST_KEPT_BITS = 60;
    private static final int MOST_LATE = 30;
    private static final int LAST_TICK = 1000000000;
    private static final int LAST_ONE = 1000000;

    private static final int AND = 0;
    private static final int OR = 1;
    private static final int XOR = 2;
    private static final int NOT = 3;
    private static final int ON = 4;
    private static final int BY = 5;
    private static final int LATE = 6;
    private static final int HALVED = 7;

    private static final int STORE = 0;
    private static final int MISSING = 1;
    private static final int WAIT = 2;

    private final Word[] words;
    private int count;

    public PeriodWords() {
        words = new Word[MOST_WORDS];
        count = 0;
    }

    public int word(int head, int headBits, int ring, int ringBits) {
        if (head < 0 || head > MOST_GIVEN_BITS || ring < 1 || ring > MOST_GIVEN_BITS) {
            return NONE;
        }
        if (count >= MOST_WORDS) {
            return NONE;
        }
        Word given = new Word(head, headBits, ring, ringBits);
        // LATE by 0 changes no bit, so its form is the form of what was given.
        return keep(shortestForm(draftOf(LATE, given, given, 0)));
    }

    public int make(int how, int a, int b) throws IllegalArgumentException {
        if (how < AND || how > HALVED || count >= MOST_WORDS) {
            return NONE;
        }
        Word first = find(a);
        Word second = needsTwoWords(how) ? find(b) : first;
        if (first == null || second == null) {
            return NONE;
        }
        if (how == LATE && (b < 0 || b > MOST_LATE)) {
            return NONE;
        }
        if (how == BY && second.ringOnes == 0) {
            throw new IllegalArgumentException("b has 1s with an end");
        }
        return keep(shortestForm(draftOf(how, first, second, b)));
    }

    public int form(int a, int what) {
        Word word = find(a);
        if (word == null) {
            return NONE;
        }
        switch (what) {
            case 0:
                return word.headLength;
            case 1:
                return word.ringLength;
            case 2:
                return word.ringOnes / commonDivisor(word.ringOnes, word.ringLength);
            case 3:
                return word.ringLength / commonDivisor(word.ringOnes, word.ringLength);
            case 4:
                return word.headOnes;
            default:
                return NONE;
        }
    }

    public int bit(int a, int tick) {
        Word word = find(a);
        if (word == null || tick < 0 || tick > LAST_TICK) {
            return NONE;
        }
        return word.bitAt(tick);
    }

    public int ones(int a, int n) {
        Word word = find(a);
        if (word == null || n < 0 || n > LAST_TICK) {
            return NONE;
        }
        return word.onesBefore(n);
    }

    public int at(int a, int n) throws NoSuchElementException {
        Word word = find(a);
        if (word == null) {
            throw new NoSuchElementException("there is no such WORD");
        }
        if (n < 1 || n > LAST_ONE || !word.hasOne(n)) {
            throw new NoSuchElementException("there is no such 1");
        }
        return word.tickOf(n);
    }

    public int same(int a) {
        Word word = find(a);
        if (word == null) {
            return NONE;
        }
        for (int i = 0; i < a; i++) {
            if (alike(find(i), word)) {
                return i;
            }
        }
        return a;
    }

    public boolean ahead(int a, int b) {
        Word first = find(a);
        Word second = find(b);
        if (first == null || second == null) {
            return false;
        }
        return leastWait(first, second) == 0;
    }

    public int between(int a, int b, int what) throws ArithmeticException {
        Word first = find(a);
        Word second = find(b);
        if (first == null || second == null || what < STORE || what > WAIT) {
            return NONE;
        }
        if (what == WAIT) {
            int wait = leastWait(first, second);
            if (wait == NONE) {
                throw new ArithmeticException("no wait is long enough");
            }
            return wait;
        }
        if (compareRates(first, second) != 0) {
            throw new ArithmeticException("the RATES are not alike");
        }
        // What is missing of a against b is what is kept of b against a.
        return what == MISSING ? mostKept(second, first) : mostKept(first, second);
    }

    public void clear() {
        for (int i = 0; i < words.length; i++) {
            words[i] = null;
        }
        count = 0;
    }

    public int total() {
        return count;
    }

    private Word find(int number) {
        if (number < 0 || number >= count || number >= words.length) {
            return null;
        }
        return words[number];
    }

    private int keep(Word word) {
        if (word == null || count < 0 || count >= words.length) {
            return NONE;
        }
        words[count] = word;
        count++;
        return count - 1;
    }

    private static boolean needsTwoWords(int how) {
        return how == AND || how == OR || how == XOR || how == ON || how == BY;
    }

    // A form is the only one of its WORD, so WORDS are the same just if their forms are.
    private static boolean alike(Word a, Word b) {
        return a != null && b != null
            && a.headLength == b.headLength && a.headBits == b.headBits
            && a.ringLength == b.ringLength && a.ringBits == b.ringBits;
    }

    /** Lengths of a head and a ring, not yet the shortest, that surely hold the new word. */
    private static Draft draftOf(int how, Word a, Word b, int late) {
        switch (how) {
            case ON:
                return draftOn(a, b);
            case BY:
                return draftBy(a, b);
            case LATE:
                return new Draft(LATE, a, b, late, a.headLength + late, a.ringLength);
            case HALVED:
                // With an odd number of 1s a ring keeps its others the next time round.
                return new Draft(HALVED, a, b, 0, a.headLength, a.ringLength * (1 + a.ringOnes % 2));
            default:
                return new Draft(how, a, b, 0, Math.max(a.headLength, b.headLength),
                    commonMultiple(a.ringLength, b.ringLength));
        }
    }

    private static Draft draftOn(Word a, Word b) {
        if (a.ringOnes == 0) {
            return new Draft(ON, a, b, 0, a.headLength, a.ringLength);
        }
        // From the first 1 of a that reads in b's ring on, both are in their rings.
        int head = Math.max(a.headLength, a.tickOf(b.headLength + 1));
        int rounds = b.ringLength / commonDivisor(a.ringOnes, b.ringLength);
        return new Draft(ON, a, b, 0, head, a.ringLength * rounds);
    }

    private static Draft draftBy(Word a, Word b) {
        int head = b.onesBefore(Math.max(a.headLength, b.headLength));
        int rounds = a.ringLength / commonDivisor(a.ringLength, b.ringLength);
        return new Draft(BY, a, b, 0, head, b.ringOnes * rounds);
    }

    /** The word of a draft in its form; null if that is too long to be kept. */
    private static Word shortestForm(Draft draft) {
        int ring = shortestRing(draft);
        if (ring == NONE) {
            return null;
        }
        int head = shortestHead(draft, ring);
        if (head > MOST_KEPT_BITS) {
            return null;
        }
        return new Word(head, draft.bits(0, head), ring, draft.bits(head, ring));
    }

    // All lengths are tried in one go: bit i of lengths stands for i + 1, and bit i of
    // past is the bit i + 1 ticks ago, so one mask strikes out each length that fails here.
    private static int shortestRing(Draft draft) {
        long past = 0;
        for (int i = 0; i < MOST_KEPT_BITS; i++) {
            past = (past << 1) | draft.bitAt(draft.headLength + i);
        }
        int start = draft.headLength + MOST_KEPT_BITS;
        long lengths = (1L << MOST_KEPT_BITS) - 1;
        for (int i = 0; i < draft.ringLength && lengths != 0; i++) {
            int bit = draft.bitAt(start + i);
            lengths = lengths & (bit == 1 ? past : ~past);
            past = (past << 1) | bit;
        }
        if (lengths == 0) {
            return NONE;
        }
        long least = lengths & -lengths;
        return Long.bitCount(least - 1) + 1;
    }

    private static int shortestHead(Draft draft, int ring) {
        for (int head = draft.headLength; head > 0; head--) {
            if (draft.bitAt(head - 1) != draft.bitAt(head - 1 + ring)) {
                return head;
            }
        }
        return 0;
    }

    private static int compareRates(Word a, Word b) {
        return Integer.compare(a.ringOnes * b.ringLength, b.ringOnes * a.ringLength);
    }

    // With RATES alike what is kept comes back with both rings, so one round tells all.
    private static int mostKept(Word a, Word b) {
        int last = Math.max(a.headLength, b.headLength) + commonMultiple(a.ringLength, b.ringLength);
        int kept = 0;
        int most = 0;
        for (int tick = 0; tick < last; tick++) {
            kept += a.bitAt(tick) - b.bitAt(tick);
            most = Math.max(most, kept);
        }
        return most;
    }

    /** THE WAIT; NONE if there is no such d. It is 0 just if a is AHEAD of b. */
    private static int leastWait(Word a, Word b) {
        if (b.ringOnes == 0) {
            return a.hasOne(b.headOnes) ? mostBehind(a, b, b.headOnes) : NONE;
        }
        if (compareRates(a, b) < 0) {
            return NONE;
        }
        // a is not the slower one, so a later round of both rings asks for no longer wait.
        int last = Math.max(a.headOnes, b.headOnes) + commonMultiple(a.ringOnes, b.ringOnes);
        return mostBehind(a, b, last);
    }

    private static int mostBehind(Word a, Word b, int last) {
        int most = 0;
        for (int n = 1; n <= last; n++) {
            most = Math.max(most, a.tickOf(n) - b.tickOf(n));
        }
        return most;
    }

    private static int commonMultiple(int x, int y) {
        return x / commonDivisor(x, y) * y;
    }

    // The bound is far above what numbers up to 60 need; the answer is 1 at least, to divide by.
    private static int commonDivisor(int x, int y) {
        int big = x;
        int small = y;
        for (int i = 0; i < 100 && small != 0; i++) {
            int rest = big % small;
            big = small;
            small = rest;
        }
        return Math.max(1, big);
    }

    /** A word as a head and a ring, whose TICK 0 is the lowest bit. */
    private static final class Word {
        final int headLength;
        final long headBits;
        final int ringLength;
        final long ringBits;
        final int headOnes;
        final int ringOnes;
        // The places of the 1s in the head, and behind them those of the 1s in the ring.
        private final int[] places;

        Word(int headLength, long headBits, int ringLength, long ringBits) {
            this.headLength = headLength;
            this.headBits = headBits & lowest(headLength);
            // A ring is divided by, so it never is without a bit.
            this.ringLength = Math.max(1, ringLength);
            this.ringBits = ringBits & lowest(this.ringLength);
            headOnes = Long.bitCount(this.headBits);
            ringOnes = Long.bitCount(this.ringBits);
            places = placesOf(this.headBits, this.ringBits);
        }

        private static long lowest(int bits) {
            return (1L << bits) - 1;
        }

        private static int[] placesOf(long headBits, long ringBits) {
            int headOnes = Long.bitCount(headBits);
            int[] places = new int[headOnes + Long.bitCount(ringBits)];
            writePlaces(places, 0, headBits);
            writePlaces(places, headOnes, ringBits);
            return places;
        }

        private static void writePlaces(int[] places, int from, long bits) {
            int next = from;
            for (int place = 0; place < MOST_KEPT_BITS; place++) {
                if (((bits >>> place) & 1) == 1 && next < places.length) {
                    places[next] = place;
                    next++;
                }
            }
        }

        int bitAt(int tick) {
            if (tick < headLength) {
                return (int) (headBits >>> tick) & 1;
            }
            return (int) (ringBits >>> ((tick - headLength) % ringLength)) & 1;
        }

        int onesBefore(int tick) {
            if (tick <= headLength) {
                return Long.bitCount(headBits & lowest(tick));
            }
            int past = tick - headLength;
            int inRound = Long.bitCount(ringBits & lowest(past % ringLength));
            return headOnes + past / ringLength * ringOnes + inRound;
        }

        boolean hasOne(int n) {
            return ringOnes > 0 || n <= headOnes;
        }

        /** The TICK of the n-th 1; NONE if there is no such 1. */
        int tickOf(int n) {
            if (n < 1 || !hasOne(n)) {
                return NONE;
            }
            if (n <= headOnes) {
                return places[n - 1];
            }
            int past = n - headOnes - 1;
            return headLength + past / ringOnes * ringLength + places[headOnes + past % ringOnes];
        }
    }

    /** A word still to be kept: each of its bits, and a head and a ring that may be too long. */
    private static final class Draft {
        final int headLength;
        final int ringLength;
        private final int how;
        private final Word a;
        private final Word b;
        private final int late;

        Draft(int how, Word a, Word b, int late, int headLength, int ringLength) {
            this.how = how;
            this.a = a;
            this.b = b;
            this.late = late;
            this.headLength = headLength;
            this.ringLength = ringLength;
        }

        int bitAt(int tick) {
            switch (how) {
                case AND:
                    return a.bitAt(tick) & b.bitAt(tick);
                case OR:
                    return a.bitAt(tick) | b.bitAt(tick);
                case XOR:
                    return a.bitAt(tick) ^ b.bitAt(tick);
                case NOT:
                    return 1 - a.bitAt(tick);
                case ON:
                    return a.bitAt(tick) == 0 ? 0 : b.bitAt(a.onesBefore(tick));
                case BY:
                    return a.bitAt(b.tickOf(tick + 1));
                case LATE:
                    return tick < late ? 0 : a.bitAt(tick - late);
                default:
                    // HALVED: an even number of 1s stands before each one that stays.
                    return a.bitAt(tick) & ~a.onesBefore(tick);
            }
        }

        long bits(int from, int length) {
            long bits = 0;
            for (int i = 0; i < length; i++) {
                bits = bits | ((long) bitAt(from + i) << i);
            }
            return bits;
        }
    }
}
