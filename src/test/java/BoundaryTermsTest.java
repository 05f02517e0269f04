/** Each sentence of the document's section "Terms" that names a boundary, at it and beside it. */
public final class BoundaryTermsTest extends WordTexts {
    private static final Checks CHECKS = new Checks();
    private static final String NO_END = "throws.ArithmeticException";

    public static void main(String[] args) {
        headOfNoBits();
        ringOfOneBit();
        shortestRing();
        shortestHead();
        fortyWords();
        headsOfSixty();
        headsOfSixtyOn();
        ringsOfSixty();
        ringsOfSixtyByHow();
        formsAloneAreMeasured();
        refusedLeavesAllAsItIs();
        ticks();
        onesAhead();
        atFromOne();
        rate();
        tickByTick();
        not();
        on();
        by();
        late();
        halved();
        aheadWithoutOnes();
        aheadNotBehind();
        storeAndMissing();
        ratesAlike();
        theWait();
        waitOfAnySize();
        noWait();
        aLongUse();
        CHECKS.end("BoundaryTermsTest");
    }

    private static void dueGiven(String text, String want) {
        CHECKS.due(text, given(text), want);
    }

    private static void dueMade(int how, String a, String b, String want) {
        CHECKS.due("make " + how + " of " + a + " and " + b, made(how, a, b), want);
    }

    private static void dueLengths(PeriodWords x, String call, int a, int head, int ring) {
        CHECKS.due("head of " + call, x.form(a, 0), head);
        CHECKS.due("ring of " + call, x.form(a, 1), ring);
    }

    /** Kept under the next number, with a form of these lengths. */
    private static void dueKept(PeriodWords x, int how, int a, int b, int head, int ring) {
        String call = "make(" + how + ", " + a + ", " + b + ")";
        int next = x.total();
        CHECKS.due(call, x.make(how, a, b), next);
        dueLengths(x, call, next, head, ring);
        CHECKS.due("total behind " + call, x.total(), next + 1);
    }

    /** Refused, and the next number stays free. */
    private static void dueRefused(PeriodWords x, int how, int a, int b) {
        String call = "make(" + how + ", " + a + ", " + b + ")";
        int before = x.total();
        CHECKS.due(call, x.make(how, a, b), NONE);
        CHECKS.due("total behind " + call, x.total(), before);
        CHECKS.due("the next number behind " + call, x.make(NOT, 0, 0), before);
    }

    private static void dueAhead(String a, String b, boolean want) {
        PeriodWords x = new PeriodWords();
        CHECKS.due(a + " ahead of " + b, x.ahead(put(x, a), put(x, b)), want);
    }

    private static void dueBetween(String a, String b, int what, Object want) {
        PeriodWords x = new PeriodWords();
        int first = put(x, a);
        int second = put(x, b);
        CHECKS.due("between " + a + " and " + b + ", " + what,
            Checks.answerOf(() -> x.between(first, second, what)), want);
    }

    // What a word is, and its form

    private static void headOfNoBits() {
        CHECKS.sentence("a HEAD of bits (none, too)");
        PeriodWords x = new PeriodWords();
        CHECKS.due("a head of no bits", x.word(0, 0, 2, 1), 0);
        dueLengths(x, "|10", 0, 0, 2);
        CHECKS.due("1s of no head", x.form(0, 4), 0);
        CHECKS.due("TICK 0 is of the ring", x.bit(0, 0), 1);
        CHECKS.due("a head of -1 bits", x.word(-1, 0, 2, 1), NONE);
        CHECKS.due("a head of one bit", x.word(1, 0, 2, 2), 1);
        dueLengths(x, "0|01", 1, 1, 2);
    }

    private static void ringOfOneBit() {
        CHECKS.sentence("then a RING of bits (one at least)");
        PeriodWords x = new PeriodWords();
        CHECKS.due("a ring of no bits", x.word(2, 1, 0, 0), NONE);
        CHECKS.due("a ring of one bit", x.word(2, 1, 1, 0), 0);
        dueLengths(x, "1|0", 0, 1, 1);
        CHECKS.due("a ring of two bits", x.word(2, 1, 2, 1), 1);
        dueLengths(x, "|10", 1, 0, 2);
        CHECKS.due("a made ring of one bit", read(x, x.make(XOR, 1, 1)), "|0");
    }

    private static void shortestRing() {
        CHECKS.sentence("Its FORM has .. the shortest RING");
        for (int length = 1; length <= 30; length++) {
            for (int part = 1; part <= length; part++) {
                if (length % part == 0) {
                    String ring = "1" + zeros(part - 1);
                    dueGiven("|" + ring.repeat(length / part), "|" + ring);
                }
            }
            // One bit that is not as in all the other rounds makes the whole ring count.
            String other = zeros(length - 1) + "1";
            dueGiven("|" + other, "|" + other);
        }
        dueGiven("|" + "10".repeat(14) + "11", "|" + "10".repeat(14) + "11");
        dueGiven("|" + "10".repeat(14) + "1", "|" + "10".repeat(14) + "1");
    }

    private static void shortestHead() {
        CHECKS.sentence("and with that the shortest HEAD");
        String ring = "1" + zeros(28) + "1";
        dueGiven(ring + "|" + ring, "|" + ring);
        dueGiven("0" + ring.substring(1) + "|" + ring, "0|" + zeros(28) + "11");
        dueGiven(ring.substring(0, 29) + "0|" + ring, ring.substring(0, 29) + "0|" + ring);
        dueGiven(ring.substring(0, 28) + "11|" + ring, ring.substring(0, 28) + "1|1" + ring.substring(0, 29));
        // Each bit of a head of 0s goes into the ring of 0s; a 1 keeps all that is ahead of it.
        for (int head = 1; head <= 30; head++) {
            dueGiven(zeros(head) + "|0", "|0");
            dueGiven(zeros(head - 1) + "1|0", zeros(head - 1) + "1|0");
            dueGiven("1" + zeros(head - 1) + "|0", "1|0");
        }
        // The ring is made the shortest one first, then the head has its bits to go into.
        dueGiven("01|0101", "|01");
        dueGiven("11|0101", "1|10");
        dueGiven("1|1010", "1|10");
    }

    // The limits

    private static void fortyWords() {
        CHECKS.sentence("WORDS are kept with numbers 0, 1, .. (40 at most)");
        PeriodWords given = new PeriodWords();
        PeriodWords made = withWords(1);
        for (int i = 0; i < 40; i++) {
            CHECKS.due("number " + i + " by word", given.word(0, 0, 1, 1), i);
        }
        for (int i = 1; i < 40; i++) {
            CHECKS.due("number " + i + " by make", made.make(NOT, i - 1, 0), i);
        }
        CHECKS.due("the 41st by word", given.word(0, 0, 1, 1), NONE);
        CHECKS.due("the 41st by make", given.make(NOT, 39, 0), NONE);
        CHECKS.due("the 41st by word behind make", made.word(0, 0, 1, 1), NONE);
        CHECKS.due("the 41st by make behind make", made.make(NOT, 39, 0), NONE);
        CHECKS.due("total", given.total(), 40);
        CHECKS.due("the word with number 39", read(made, 39), "|0");
        CHECKS.due("no word has number 40", made.form(40, 1), NONE);
    }

    private static void headsOfSixty() {
        CHECKS.sentence("HEADS .. of at most 60 bits: what would have more is refused");
        PeriodWords x = new PeriodWords();
        int a = headOf(x, 30);
        dueKept(x, LATE, a, 29, 59, 1);
        dueKept(x, LATE, a, 30, 60, 1);
        int sixty = x.total() - 1;
        CHECKS.due("the 1 of a head of 60", x.at(sixty, 1), 59);
        dueRefused(x, LATE, sixty, 1);
        dueRefused(x, LATE, sixty, 30);
        dueKept(x, LATE, sixty, 0, 60, 1);
        int b = headOf(x, 31);
        dueKept(x, LATE, b, 29, 60, 1);
        dueRefused(x, LATE, b, 30);
        dueKept(x, NOT, sixty, 0, 60, 1);
        dueKept(x, AND, sixty, sixty, 60, 1);
        dueKept(x, OR, sixty, a, 60, 1);
        dueKept(x, XOR, sixty, put(x, "|1"), 60, 1);
        dueKept(x, BY, sixty, put(x, "|1"), 60, 1);
        dueKept(x, BY, sixty, put(x, "0|1"), 59, 1);
        dueKept(x, HALVED, sixty, 0, 60, 1);
    }

    private static void headsOfSixtyOn() {
        CHECKS.sentence("HEADS .. of at most 60 bits, of a ON b");
        PeriodWords x = new PeriodWords();
        int even = put(x, "|10");
        int odd = put(x, "|01");
        int lateEven = put(x, "0|01");
        int b = headOf(x, 30);
        dueKept(x, ON, even, b, 59, 1);
        dueKept(x, ON, odd, b, 60, 1);
        dueRefused(x, ON, lateEven, b);
        dueRefused(x, ON, odd, headOf(x, 31));
        dueKept(x, ON, put(x, "|1"), headOf(x, 60), 60, 1);
        dueRefused(x, ON, put(x, "0|1"), headOf(x, 60));
        dueKept(x, ON, put(x, "0|1"), headOf(x, 59), 60, 1);
    }

    private static void ringsOfSixty() {
        CHECKS.sentence("RINGS of FORMS of at most 60 bits: what would have more is refused");
        PeriodWords x = new PeriodWords();
        dueKept(x, HALVED, thinRingOf(x, 29), 0, 0, 58);
        dueLengths(x, "a ring of 59", oddRingOf(x, 59), 0, 59);
        dueKept(x, HALVED, thinRingOf(x, 30), 0, 0, 60);
        int sixty = x.total() - 1;
        CHECKS.due("the second 1 of a ring of 60", x.at(sixty, 2), 60);
        dueRefused(x, HALVED, sixty, 0);
        // No ring is 61 bits long: that is a prime number above all that can be put together.
        int odd = oddRingOf(x, 31);
        dueLengths(x, "a ring of 31", odd, 0, 31);
        dueRefused(x, HALVED, odd, 0);
        dueRefused(x, HALVED, thinRingOf(x, 32), 0);
        dueKept(x, NOT, sixty, 0, 0, 60);
        dueKept(x, LATE, sixty, 30, 0, 60);
        dueKept(x, LATE, sixty, 0, 0, 60);
    }

    private static void ringsOfSixtyByHow() {
        CHECKS.sentence("RINGS of FORMS of at most 60 bits, by each how");
        for (int how : new int[] {AND, OR, XOR}) {
            PeriodWords x = new PeriodWords();
            int two = put(x, "|10");
            dueKept(x, how, two, thinRingOf(x, 29), 0, 58);
            dueKept(x, how, thinRingOf(x, 20), thinRingOf(x, 30), 0, 60);
            dueKept(x, how, thinRingOf(x, 60), thinRingOf(x, 60), 0, how == XOR ? 1 : 60);
            dueRefused(x, how, two, oddRingOf(x, 31));
            dueRefused(x, how, thinRingOf(x, 7), thinRingOf(x, 9));
        }
        PeriodWords y = new PeriodWords();
        int two = put(y, "|10");
        int odd = oddRingOf(y, 31);
        dueKept(y, ON, two, thinRingOf(y, 29), 0, 58);
        dueKept(y, ON, two, thinRingOf(y, 30), 0, 60);
        dueRefused(y, ON, two, odd);
        int twoOfThree = put(y, "|110");
        dueKept(y, BY, thinRingOf(y, 29), twoOfThree, 0, 58);
        dueKept(y, BY, thinRingOf(y, 60), put(y, "|1"), 0, 60);
        dueRefused(y, BY, odd, twoOfThree);
    }

    private static void formsAloneAreMeasured() {
        CHECKS.sentence("HEADS and RINGS of FORMS of at most 60 bits each");
        PeriodWords x = new PeriodWords();
        int a = put(x, "|1" + zeros(27));
        int b = put(x, "|01" + zeros(28));
        // Both rings come back together after 420 TICKS only, but their 1s never meet.
        dueKept(x, AND, a, b, 0, 1);
        dueRefused(x, OR, a, b);
        dueRefused(x, XOR, a, b);
        int thin = put(x, "|" + zeros(29) + "1");
        dueKept(x, ON, thin, put(x, "01|0"), 60, 1);
        dueKept(x, ON, thin, put(x, "|0"), 0, 1);
        dueKept(x, ON, put(x, "|0"), thin, 0, 1);
        int sixty = headOf(x, 60);
        dueKept(x, XOR, sixty, sixty, 0, 1);
        dueKept(x, LATE, put(x, "|0"), 30, 0, 1);
        // A form may have both of 60 bits at once.
        int both = x.make(OR, sixty, thinRingOf(x, 60));
        dueLengths(x, "60 and 60 bits", both, 60, 60);
    }

    private static void refusedLeavesAllAsItIs() {
        CHECKS.sentence("what would have more is refused");
        PeriodWords x = new PeriodWords();
        int[] words = {thinRingOf(x, 7), thinRingOf(x, 9), headOf(x, 60)};
        String[] before = new String[words.length];
        for (int i = 0; i < words.length; i++) {
            before[i] = read(x, words[i]);
        }
        int total = x.total();
        CHECKS.due("a ring of 63", x.make(OR, words[0], words[1]), NONE);
        CHECKS.due("a head of 61", x.make(LATE, words[2], 1), NONE);
        for (int i = 0; i < words.length; i++) {
            CHECKS.due("word " + words[i] + " behind what was refused", read(x, words[i]), before[i]);
        }
        CHECKS.due("total", x.total(), total);
        CHECKS.due("no word under the next number", x.form(total, 0), NONE);
        CHECKS.due("the next number", put(x, "|1"), total);
    }

    // Ticks, counts and rates

    private static void ticks() {
        CHECKS.sentence("TICKS are 0, 1, ..: the WORD's bits");
        PeriodWords x = new PeriodWords();
        int a = put(x, "1" + zeros(28) + "1|01" + zeros(27) + "1");
        CHECKS.due("first of the head", x.bit(a, 0), 1);
        CHECKS.due("second of the head", x.bit(a, 1), 0);
        CHECKS.due("last of the head but one", x.bit(a, 28), 0);
        CHECKS.due("last of the head", x.bit(a, 29), 1);
        CHECKS.due("first of the ring", x.bit(a, 30), 0);
        CHECKS.due("second of the ring", x.bit(a, 31), 1);
        CHECKS.due("last of the ring but one", x.bit(a, 58), 0);
        CHECKS.due("last of the ring", x.bit(a, 59), 1);
        CHECKS.due("first of the second round", x.bit(a, 60), 0);
        CHECKS.due("second of the second round", x.bit(a, 61), 1);
        int b = x.make(OR, headOf(x, 60), thinRingOf(x, 60));
        CHECKS.due("last of a head of 60", x.bit(b, 59), 1);
        CHECKS.due("first of a ring of 60", x.bit(b, 60), 1);
        CHECKS.due("last of a ring of 60", x.bit(b, 119), 0);
        CHECKS.due("first of its second round", x.bit(b, 120), 1);
    }

    private static void onesAhead() {
        CHECKS.sentence("ONES(n) is how many 1s are ahead of TICK n");
        PeriodWords x = new PeriodWords();
        int a = put(x, "101|1001");
        int[] want = {0, 1, 1, 2, 3, 3, 3, 4, 5};
        for (int n = 0; n < want.length; n++) {
            CHECKS.due("ONES(" + n + ")", x.ones(a, n), want[n]);
        }
        int b = sixtyOnes(x);
        CHECKS.due("ONES(59) of 60 1s", x.ones(b, 59), 59);
        CHECKS.due("ONES(60) of 60 1s", x.ones(b, 60), 60);
        CHECKS.due("ONES(61) of 60 1s", x.ones(b, 61), 60);
        CHECKS.due("ONES(0) of 1s alone", x.ones(put(x, "|1"), 0), 0);
    }

    private static void atFromOne() {
        CHECKS.sentence("AT(n), n from 1 on, the TICK of the n-th 1");
        PeriodWords x = new PeriodWords();
        int a = put(x, "101|1001");
        int[] want = {0, 2, 3, 6, 7, 10, 11};
        for (int n = 1; n <= want.length; n++) {
            CHECKS.due("AT(" + n + ")", x.at(a, n), want[n - 1]);
        }
        int b = x.make(OR, sixtyOnes(x), thinRingOf(x, 60));
        CHECKS.due("AT(60), the last of the head", x.at(b, 60), 59);
        CHECKS.due("AT(61), the first of the ring", x.at(b, 61), 60);
        CHECKS.due("AT(62), of the second round", x.at(b, 62), 120);
    }

    private static void dueRate(String text, int p, int q) {
        PeriodWords x = new PeriodWords();
        int a = put(x, text);
        CHECKS.due("p of " + text, x.form(a, 2), p);
        CHECKS.due("q of " + text, x.form(a, 3), q);
    }

    private static void rate() {
        CHECKS.sentence("The RATE .. p / q in lowest terms (0 / 1 without any)");
        dueRate("|0", 0, 1);
        dueRate(ones(30) + "|0", 0, 1);
        dueRate("|1", 1, 1);
        dueRate(zeros(30) + "|1", 1, 1);
        dueRate("|" + zeros(29) + "1", 1, 30);
        dueRate("|" + ones(29) + "0", 29, 30);
        dueRate("|" + ones(15) + zeros(15), 1, 2);
        dueRate("|" + ones(20) + zeros(10), 2, 3);
        dueRate("1|" + ones(14) + zeros(15), 14, 29);
        PeriodWords x = new PeriodWords();
        int thin = thinRingOf(x, 60);
        CHECKS.due("p of a ring of 60", x.form(thin, 2), 1);
        CHECKS.due("q of a ring of 60", x.form(thin, 3), 60);
        int thick = x.make(NOT, thin, 0);
        CHECKS.due("p of its NOT", x.form(thick, 2), 59);
        CHECKS.due("q of its NOT", x.form(thick, 3), 60);
    }

    // What words are put together of

    private static void tickByTick() {
        CHECKS.sentence("a AND, OR, XOR b: TICK by TICK");
        dueMade(AND, "|0", "|0", "|0");
        dueMade(AND, "|1", "|0", "|0");
        dueMade(AND, "|1", "|1", "|1");
        dueMade(OR, "|0", "|0", "|0");
        dueMade(OR, "|0", "|1", "|1");
        dueMade(OR, "|1", "|1", "|1");
        dueMade(XOR, "|0", "|0", "|0");
        dueMade(XOR, "|1", "|0", "|1");
        dueMade(XOR, "|1", "|1", "|0");
        // One head has ended, and its ring goes on beside the other's head.
        dueMade(AND, ones(30) + "|0", "|10", "10".repeat(14) + "1|0");
        dueMade(OR, "|100", "001|0", "101|100");
        dueMade(XOR, "1|0", zeros(29) + "1|0", "1" + zeros(28) + "1|0");
    }

    private static void not() {
        CHECKS.sentence("NOT a: each the other one");
        dueMade(NOT, "|0", "|0", "|1");
        dueMade(NOT, "|1", "|0", "|0");
        dueMade(NOT, zeros(29) + "1|0", "|0", ones(29) + "0|1");
        dueMade(NOT, "|" + ones(29) + "0", "|0", "|" + zeros(29) + "1");
        PeriodWords x = new PeriodWords();
        int a = x.make(OR, headOf(x, 60), thinRingOf(x, 60));
        int b = x.make(NOT, a, 0);
        dueLengths(x, "NOT of 60 and 60 bits", b, 60, 60);
        for (int tick : new int[] {0, 1, 58, 59, 60, 61, 119, 120, 121}) {
            CHECKS.due("NOT at " + tick, x.bit(b, tick), 1 - x.bit(a, tick));
        }
    }

    private static void on() {
        CHECKS.sentence("a ON b: where a has 0, 0; at the n-th 1 of a TICK n - 1 of b");
        dueMade(ON, "|0", "|1", "|0");
        dueMade(ON, "|1", "|0", "|0");
        dueMade(ON, "|1", "|1", "|1");
        dueMade(ON, "|01", "1|0", "01|0");
        dueMade(ON, "|01", "01|0", "0001|0");
        dueMade(ON, "1|0", "1|0", "1|0");
        dueMade(ON, "1|0", "01|1", "|0");
        dueMade(ON, "11|0", "01|1", "01|0");
        dueMade(ON, "111|0", "01|1", "011|0");
        // Over the seam of b's head and its ring.
        dueMade(ON, "|001", "1|10", "001|001000");
        dueMade(ON, "|001", "0|01", "000|000001");
        // b is in its ring from its TICK 0 on, but a has its head still ahead.
        dueMade(ON, "0111|10", "|1", "0111|10");
    }

    private static void by() {
        CHECKS.sentence("a BY b: the TICKS of a at which b has 1 (b must have 1s without an end)");
        dueMade(BY, "|1", "|1", "|1");
        dueMade(BY, "|0", "|" + zeros(29) + "1", "|0");
        dueMade(BY, "1|0", "|1", "1|0");
        dueMade(BY, "1|0", "0|1", "|0");
        dueMade(BY, "1|0", "1|" + zeros(29) + "1", "1|0");
        dueMade(BY, zeros(29) + "1|0", "|" + zeros(29) + "1", "1|0");
        dueMade(BY, zeros(28) + "1|0", "|" + zeros(29) + "1", "|0");
        // Either head may be the one that ends later.
        dueMade(BY, "|10", "0101|10", "00|1");
        dueMade(BY, "1001|10", "|10", "10|1");
        PeriodWords x = new PeriodWords();
        int a = put(x, "|1");
        int head = put(x, ones(30) + "|0");
        int none = put(x, "|0");
        CHECKS.dueThrow("BY 30 1s", () -> x.make(BY, a, head), IllegalArgumentException.class);
        CHECKS.dueThrow("BY no 1s", () -> x.make(BY, a, none), IllegalArgumentException.class);
    }

    private static void late() {
        CHECKS.sentence("LATE by d (0 .. 30): d 0s, then a");
        PeriodWords x = new PeriodWords();
        int a = put(x, "1|0");
        CHECKS.due("by -1", x.make(LATE, a, -1), NONE);
        for (int d = 0; d <= 30; d++) {
            int made = x.make(LATE, a, d);
            CHECKS.due("the 1 of LATE by " + d, x.at(made, 1), d);
            CHECKS.due("the head of LATE by " + d, x.form(made, 0), d + 1);
        }
        CHECKS.due("by 31", x.make(LATE, a, 31), NONE);
        CHECKS.due("by 0 it is the same", x.same(1), 0);
    }

    private static void halved() {
        CHECKS.sentence("HALVED: every second 1 of a, from the first one on, the others become 0");
        dueMade(HALVED, "|0", "|0", "|0");
        dueMade(HALVED, "1|0", "|0", "1|0");
        dueMade(HALVED, "11|0", "|0", "1|0");
        dueMade(HALVED, "111|0", "|0", "101|0");
        dueMade(HALVED, zeros(29) + "1|0", "|0", zeros(29) + "1|0");
        dueMade(HALVED, "|1", "|0", "|10");
        dueMade(HALVED, "0|1", "|0", "|01");
        dueMade(HALVED, "1|110", "|0", "1|010");
        dueMade(HALVED, "11|011", "|0", "|100");
        // An odd number of 1s in the ring makes two rounds of it, an even one does not.
        dueMade(HALVED, "|" + ones(29) + "0", "|0", "|" + "10".repeat(15) + "01".repeat(14) + "00");
        dueMade(HALVED, "|" + ones(28) + "00", "|0", "|" + "10".repeat(14) + "00");
    }

    // How words are compared

    private static void aheadWithoutOnes() {
        CHECKS.sentence("AHEAD: for each n for which b has an n-th 1, a has one");
        dueAhead("|0", "|0", true);
        dueAhead("1|0", "|0", true);
        dueAhead("|1", "|0", true);
        dueAhead("|0", "1|0", false);
        dueAhead("|0", zeros(29) + "1|0", false);
        dueAhead("|0", "|" + zeros(29) + "1", false);
        dueAhead("11|0", "0011|0", true);
        dueAhead("11|0", "00111|0", false);
        dueAhead("111|0", "0011|0", true);
        // However many 1s there are, those with an end are fewer than those without.
        dueAhead(ones(30) + "|0", "|" + zeros(29) + "1", false);
        dueAhead("|1", ones(30) + "|0", true);
    }

    private static void aheadNotBehind() {
        CHECKS.sentence("and AT(n) of a is not behind AT(n) of b");
        dueAhead("|1", "|1", true);
        dueAhead("01|0", "01|0", true);
        dueAhead("01|0", "001|0", true);
        dueAhead("001|0", "01|0", false);
        dueAhead("11|0", "101|0", true);
        dueAhead("101|0", "11|0", false);
        dueAhead("1001|0", "11|0", false);
        // One TICK behind at the last 1 of the ring alone.
        dueAhead("|110", "|101", true);
        dueAhead("|101", "|110", false);
        // The slower one falls behind only after its long start is used up.
        dueAhead(ones(30) + "|" + zeros(28) + "1", "|" + zeros(28) + "1", true);
        dueAhead(ones(30) + "|" + zeros(29) + "1", "|" + zeros(28) + "1", false);
        // Level once in a round of both rings, and behind never; one TICK later it is behind.
        dueAhead("|10010", "|01010", true);
        dueAhead("|01001", "|01010", false);
    }

    private static void storeAndMissing() {
        CHECKS.sentence("THE STORE is the most .. of it, MISSING the most .. below 0 (0, if never)");
        dueBetween("|0", "|0", 0, 0);
        dueBetween("|0", "|0", 1, 0);
        dueBetween("|1", "|1", 0, 0);
        dueBetween("|1", "|1", 1, 0);
        dueBetween("1|0", "1|0", 0, 0);
        dueBetween("1|0", "01|0", 0, 1);
        dueBetween("1|0", "01|0", 1, 0);
        dueBetween("01|0", "1|0", 0, 0);
        dueBetween("01|0", "1|0", 1, 1);
        dueBetween("1|0", "|0", 0, 1);
        dueBetween("|0", "1|0", 1, 1);
        // The most is reached in the head of one, in the head of the other, and in the last TICK of a ring.
        dueBetween(ones(30) + "|0", "|0", 0, 30);
        dueBetween("|0", ones(30) + "|0", 1, 30);
        dueBetween("|1", zeros(30) + "|1", 0, 30);
        dueBetween("|10", zeros(29) + "|01", 0, 15);
        dueBetween("|" + zeros(15) + ones(15), "|" + ones(15) + zeros(15), 1, 15);
        dueBetween("|" + ones(15) + zeros(15), "|" + zeros(15) + ones(15), 0, 15);
        // Rings of 10 and 15 bits stand farthest apart only late in their round of 30.
        dueBetween("|1111000000", "|" + zeros(9) + "111111", 0, 6);
        dueBetween("|" + zeros(9) + "111111", "|1111000000", 1, 6);
        PeriodWords x = new PeriodWords();
        int most = sixtyOnes(x);
        int none = put(x, "|0");
        CHECKS.due("THE STORE of 60 1s", x.between(most, none, 0), 60);
        CHECKS.due("MISSING of 60 1s", x.between(most, none, 1), 0);
        CHECKS.due("THE STORE of none", x.between(none, most, 0), 0);
        CHECKS.due("MISSING of none", x.between(none, most, 1), 60);
    }

    private static void ratesAlike() {
        CHECKS.sentence("They have an end just if both RATES are alike");
        for (int what = 0; what <= 1; what++) {
            dueBetween("|10", "|1100", what, what == 0 ? 0 : 1);
            dueBetween("|0", "1|0", what, what);
            dueBetween("|0", "|" + zeros(29) + "1", what, NO_END);
            dueBetween("|" + zeros(29) + "1", "|0", what, NO_END);
            dueBetween("|1", "|" + ones(29) + "0", what, NO_END);
            dueBetween("|" + ones(29) + "0", "|1", what, NO_END);
            // 29 / 30 and 28 / 29 are as near to each other as such RATES can be.
            dueBetween("|" + ones(29) + "0", "|" + ones(28) + "0", what, NO_END);
            dueBetween("|" + ones(28) + "0", "|" + ones(29) + "0", what, NO_END);
            dueBetween("|" + zeros(29) + "1", "|" + zeros(28) + "1", what, NO_END);
            // Even with as many 1s, and even with rings as long.
            dueBetween("|100", "|10", what, NO_END);
            dueBetween("|100", "|110", what, NO_END);
        }
    }

    private static void theWait() {
        CHECKS.sentence("THE WAIT for a and b: the least d, 0 or more, so that a is AHEAD of b LATE by d");
        dueBetween("|0", "|0", 2, 0);
        dueBetween("|1", "|0", 2, 0);
        dueBetween("|1", "|1", 2, 0);
        dueBetween("1|0", "01|0", 2, 0);
        dueBetween("1|0", zeros(29) + "1|0", 2, 0);
        dueBetween("01|0", "1|0", 2, 1);
        dueBetween("001|0", "1|0", 2, 2);
        dueBetween("1001|0", "11|0", 2, 2);
        dueBetween("|1", "|" + zeros(29) + "1", 2, 0);
        // The wait is what the 1 that is farthest behind asks for: the first one, or the last of the ring.
        dueBetween("|0011", "|1010", 2, 2);
        dueBetween("|1001", "|1100", 2, 2);
        // Or one beyond the first round of either ring.
        dueBetween("|" + zeros(9) + "111111", "|1111000000", 2, 12);
        PeriodWords x = new PeriodWords();
        int a = put(x, "001|0110");
        int b = put(x, "|1010");
        int wait = x.between(a, b, 2);
        CHECKS.due("that wait", wait, 2);
        CHECKS.due("AHEAD of b LATE by it", x.ahead(a, x.make(LATE, b, wait)), true);
        CHECKS.due("AHEAD of b LATE by one less", x.ahead(a, x.make(LATE, b, wait - 1)), false);
    }

    private static void waitOfAnySize() {
        CHECKS.sentence("d, 0 or more .. (here of any size)");
        PeriodWords x = new PeriodWords();
        int first = put(x, "1|0");
        for (int d = 28; d <= 32; d++) {
            CHECKS.due("a wait of " + d, x.between(headOf(x, d + 1), first, 2), d);
        }
        CHECKS.due("a wait of 59", x.between(headOf(x, 60), first, 2), 59);
        PeriodWords y = new PeriodWords();
        int lastOfSixty = y.make(LATE, y.make(LATE, thinRingOf(y, 60), 30), 29);
        int zerosFirst = y.make(XOR, lastOfSixty, headOf(y, 60));
        dueLengths(y, "60 0s, then 59 0s and a 1 for ever", zerosFirst, 60, 60);
        int onesFirst = y.make(OR, sixtyOnes(y), thinRingOf(y, 60));
        dueLengths(y, "60 1s, then a 1 and 59 0s for ever", onesFirst, 60, 60);
        // AT(61) is 60 + 61 * 60 - 1 of the one and 60 of the other: no two forms stand farther apart.
        CHECKS.due("the longest wait", y.between(zerosFirst, onesFirst, 2), 3659);
        CHECKS.due("the other way round", y.between(onesFirst, zerosFirst, 2), 0);
    }

    private static void noWait() {
        CHECKS.sentence("there is no such d");
        dueBetween("|0", "1|0", 2, NO_END);
        dueBetween("1|0", "11|0", 2, NO_END);
        dueBetween("11|0", "11|0", 2, 0);
        dueBetween(ones(30) + "|0", "|" + zeros(29) + "1", 2, NO_END);
        dueBetween("|" + zeros(29) + "1", "|" + zeros(28) + "1", 2, NO_END);
        dueBetween("|" + zeros(29) + "1", "|" + zeros(29) + "1", 2, 0);
        dueBetween("|" + ones(28) + "0", "|" + ones(29) + "0", 2, NO_END);
        dueBetween("|" + ones(29) + "0", "|" + ones(28) + "0", 2, 0);
        dueBetween(ones(30) + "|" + ones(28) + "0", "|" + ones(29) + "0", 2, NO_END);
        dueBetween("|0", "|0", 2, 0);
    }

    private static void aLongUse() {
        CHECKS.sentence("An object is used for at most 512 calls after it has been made");
        PeriodWords x = new PeriodWords();
        int calls = 0;
        for (int round = 0; round < 12; round++) {
            for (int i = 0; i < 40; i++) {
                CHECKS.due("number " + i + " of round " + round, x.word(0, 0, 2, 1), i);
            }
            x.clear();
            calls += 41;
        }
        for (; calls < 509; calls++) {
            CHECKS.due("total", x.total(), 0);
        }
        CHECKS.due("call 510", x.word(1, 1, 1, 0), 0);
        CHECKS.due("call 511", x.make(NOT, 0, 0), 1);
        CHECKS.due("call 512", x.at(1, 1), 1);
    }
}
