/**
 * Words written as texts, a head and behind a bar a ring (101|10), and words at the limits. Tests
 * extend it, since nothing can be imported from a class without a package.
 */
abstract class WordTexts {
    static final int NONE = PeriodWords.NONE;
    static final int AND = 0;
    static final int OR = 1;
    static final int XOR = 2;
    static final int NOT = 3;
    static final int ON = 4;
    static final int BY = 5;
    static final int LATE = 6;
    static final int HALVED = 7;

    static int put(PeriodWords x, String text) {
        int bar = text.indexOf('|');
        String head = text.substring(0, bar);
        String ring = text.substring(bar + 1);
        return x.word(head.length(), number(head), ring.length(), number(ring));
    }

    private static int number(String bits) {
        int sum = 0;
        for (int i = 0; i < bits.length(); i++) {
            sum |= (bits.charAt(i) - '0') << i;
        }
        return sum;
    }

    static String read(PeriodWords x, int a) {
        if (x.form(a, 0) == PeriodWords.NONE) {
            return "none";
        }
        StringBuilder text = new StringBuilder();
        int head = x.form(a, 0);
        int ring = x.form(a, 1);
        for (int i = 0; i < head + ring; i++) {
            text.append(i == head ? "|" : "").append(x.bit(a, i));
        }
        return text.toString();
    }

    static String zeros(int n) {
        return "0".repeat(n);
    }

    static String ones(int n) {
        return "1".repeat(n);
    }

    /** The form of a word that is given as a text. */
    static String given(String text) {
        PeriodWords x = new PeriodWords();
        return read(x, put(x, text));
    }

    static String made(int how, String a, String b) {
        PeriodWords x = new PeriodWords();
        return read(x, x.make(how, put(x, a), put(x, b)));
    }

    /** A word with a head of n bits, 0 to 60: its last bit is the word's only 1. */
    static int headOf(PeriodWords x, int n) {
        if (n <= 30) {
            return n == 0 ? put(x, "|0") : put(x, zeros(n - 1) + "1|0");
        }
        return x.make(LATE, headOf(x, 30), n - 30);
    }

    /** A word of 60 1s and then none. */
    static int sixtyOnes(PeriodWords x) {
        int a = put(x, ones(30) + "|0");
        return x.make(OR, a, x.make(LATE, a, 30));
    }

    /** A word without a head and with a ring of n bits, 1 to 60, and n even or at most 30: a 1, then 0s. */
    static int thinRingOf(PeriodWords x, int n) {
        if (n <= 30) {
            return put(x, "|1" + zeros(n - 1));
        }
        return x.make(HALVED, put(x, "|1" + zeros(n / 2 - 1)), 0);
    }

    /** A word without a head and with a ring of n bits, n odd and 3 to 59: 0101 .. 0. */
    static int oddRingOf(PeriodWords x, int n) {
        int allButFirst = x.make(NOT, thinRingOf(x, n + 1), 0);
        return x.make(BY, put(x, "|10"), allButFirst);
    }

    /** An object with so many words, each of them 1s alone. */
    static PeriodWords withWords(int count) {
        PeriodWords x = new PeriodWords();
        for (int i = 0; i < count; i++) {
            x.word(0, 0, 1, 1);
        }
        return x;
    }
}
