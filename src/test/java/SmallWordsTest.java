import java.util.ArrayList;
import java.util.Arrays;
import java.util.List;

/**
 * Each sentence of the document's section "Terms", taken literally, on all words whose head has up
 * to 2 bits and whose ring has up to 4, and on all pairs of them.
 */
public final class SmallWordsTest extends WordTexts {
    private static final Checks CHECKS = new Checks();
    private static final int LONGEST_HEAD = 2;
    private static final int LONGEST_RING = 4;
    // Above any head and any ring that one call makes of such words, but for LATE.
    private static final int SETTLED = 60;
    // So many TICKS that the nearest of unlike RATES, 2 / 3 and 3 / 4, use up LONG_WAIT.
    private static final int WRITTEN = 1000;
    private static final int LONG_WAIT = 40;
    private static final String NO_END = "throws.ArithmeticException";

    /** A word as it is given, and its first bits. */
    private record Written(String text, int[] bits) {
        int ones(int n) {
            int sum = 0;
            for (int t = 0; t < n; t++) {
                sum += bits[t];
            }
            return sum;
        }

        int[] ticksOfOnes() {
            int[] ticks = new int[ones(bits.length)];
            int n = 0;
            for (int t = 0; t < bits.length; t++) {
                if (bits[t] == 1) {
                    ticks[n++] = t;
                }
            }
            return ticks;
        }

        boolean endless() {
            return ones(SETTLED) < ones(bits.length);
        }
    }

    public static void main(String[] args) {
        List<Written> given = allGiven();
        List<Written> words = withoutDoubles(given);
        everyWordIsThere(given, words);
        given.forEach(SmallWordsTest::form);
        for (Written a : words) {
            ticks(a);
            onesAndAt(a);
            rate(a);
            not(a);
            late(a);
            halved(a);
            for (Written b : words) {
                same(a, b);
                tickByTick(a, b);
                on(a, b);
                by(a, b);
                ahead(a, b);
                storeAndMissing(a, b);
                theWait(a, b);
            }
        }
        CHECKS.end("SmallWordsTest");
    }

    private static List<Written> allGiven() {
        List<Written> all = new ArrayList<>();
        for (String head : bitsUpTo(0, LONGEST_HEAD)) {
            for (String ring : bitsUpTo(1, LONGEST_RING)) {
                all.add(written(head + "|" + ring));
            }
        }
        return all;
    }

    private static List<String> bitsUpTo(int shortest, int longest) {
        List<String> all = new ArrayList<>();
        for (int length = shortest; length <= longest; length++) {
            for (int value = 0; value < 1 << length; value++) {
                // A 1 in front keeps the 0s with which a text may begin.
                all.add(Integer.toBinaryString(1 << length | value).substring(1));
            }
        }
        return all;
    }

    private static Written written(String text) {
        int bar = text.indexOf('|');
        String ring = text.substring(bar + 1);
        int[] bits = new int[WRITTEN];
        for (int t = 0; t < WRITTEN; t++) {
            bits[t] = (t < bar ? text.charAt(t) : ring.charAt((t - bar) % ring.length())) - '0';
        }
        return new Written(text, bits);
    }

    private static List<Written> withoutDoubles(List<Written> given) {
        List<Written> words = new ArrayList<>();
        for (Written next : given) {
            if (words.stream().noneMatch(w -> Arrays.equals(w.bits, next.bits))) {
                words.add(next);
            }
        }
        return words;
    }

    /** Of all heads and rings that are this word, the shortest ring, and with that the shortest head. */
    private static String shortest(int[] bits) {
        for (int ring = 1; ring <= SETTLED; ring++) {
            for (int head = 0; head <= SETTLED; head++) {
                if (comesBack(bits, head, ring)) {
                    return text(bits, 0, head) + "|" + text(bits, head, head + ring);
                }
            }
        }
        return "none";
    }

    private static boolean comesBack(int[] bits, int head, int ring) {
        for (int t = head; t + ring < bits.length; t++) {
            if (bits[t] != bits[t + ring]) {
                return false;
            }
        }
        return true;
    }

    private static String text(int[] bits, int from, int to) {
        StringBuilder text = new StringBuilder();
        for (int t = from; t < to; t++) {
            text.append(bits[t]);
        }
        return text.toString();
    }

    private static void dueMade(int how, Written a, Written b, int[] want) {
        CHECKS.due("make " + how + " of " + a.text + " and " + b.text, made(how, a.text, b.text), shortest(want));
    }

    // What a word is

    private static void everyWordIsThere(List<Written> given, List<Written> words) {
        CHECKS.sentence("A WORD is endless: a HEAD of bits (none, too), then a RING of bits (one at least)");
        CHECKS.due("ways to give such words", given.size(), 7 * 30);
        // 22 rings are no shorter ring again and again; a head's last bit is not the ring's last one.
        CHECKS.due("words among them", words.size(), 22 + 22 + 44);
    }

    private static void form(Written a) {
        CHECKS.sentence("Its FORM has .. the shortest RING, and with that the shortest HEAD");
        CHECKS.due(a.text, given(a.text), shortest(a.bits));
    }

    private static void same(Written a, Written b) {
        CHECKS.sentence("8: The least number of a WORD that is the same");
        PeriodWords x = new PeriodWords();
        put(x, a.text);
        int second = put(x, b.text);
        int third = put(x, b.text);
        int want = Arrays.equals(a.bits, b.bits) ? 0 : second;
        CHECKS.due(b.text + " behind " + a.text, x.same(second), want);
        CHECKS.due(b.text + " once more behind " + a.text, x.same(third), want);
    }

    private static void ticks(Written a) {
        CHECKS.sentence("TICKS are 0, 1, ..: the WORD's bits");
        PeriodWords x = new PeriodWords();
        int number = put(x, a.text);
        for (int t = 0; t < 100; t++) {
            CHECKS.due("bit " + t + " of " + a.text, x.bit(number, t), a.bits[t]);
        }
        CHECKS.sentence("then a RING of bits .. again and again");
        int head = x.form(number, 0);
        int ring = x.form(number, 1);
        for (int back = 0; back < 2 * ring; back++) {
            int tick = 1000000000 - back;
            int want = a.bits[head + (tick - head) % ring];
            CHECKS.due("bit " + tick + " of " + a.text, x.bit(number, tick), want);
        }
    }

    private static void onesAndAt(Written a) {
        PeriodWords x = new PeriodWords();
        int number = put(x, a.text);
        CHECKS.sentence("ONES(n) is how many 1s are ahead of TICK n");
        for (int n = 0; n <= 100; n++) {
            CHECKS.due("ones " + n + " of " + a.text, x.ones(number, n), a.ones(n));
        }
        int ring = x.form(number, 1);
        int inRing = a.ones(SETTLED + ring) - a.ones(SETTLED);
        int rounds = (1000000000 - SETTLED) / ring;
        CHECKS.due("ones of " + a.text + " behind " + rounds + " rounds",
            x.ones(number, SETTLED + rounds * ring), a.ones(SETTLED) + rounds * inRing);
        CHECKS.sentence("AT(n), n from 1 on, the TICK of the n-th 1");
        int[] ticks = a.ticksOfOnes();
        for (int n = 1; n <= 100; n++) {
            int nth = n;
            Object want = n <= ticks.length ? ticks[n - 1] : "throws.NoSuchElementException";
            CHECKS.due("at " + n + " of " + a.text, Checks.answerOf(() -> x.at(number, nth)), want);
        }
    }

    private static void rate(Written a) {
        CHECKS.sentence("The RATE: the 1s of its RING by the RING's length, p / q in lowest terms");
        PeriodWords x = new PeriodWords();
        int number = put(x, a.text);
        String form = shortest(a.bits);
        int bar = form.indexOf('|');
        int length = form.length() - bar - 1;
        int ringOnes = a.ones(bar + length) - a.ones(bar);
        int q = 1;
        while (ringOnes * q % length != 0) {
            q++;
        }
        CHECKS.due("p of " + a.text, x.form(number, 2), ringOnes * q / length);
        CHECKS.due("q of " + a.text, x.form(number, 3), q);
        CHECKS.sentence("4: the 1s of its HEAD");
        CHECKS.due("1s of the head of " + a.text, x.form(number, 4), a.ones(bar));
    }

    // What words are put together of

    private static void tickByTick(Written a, Written b) {
        CHECKS.sentence("a AND, OR, XOR b: TICK by TICK");
        int[] and = new int[WRITTEN];
        int[] or = new int[WRITTEN];
        int[] xor = new int[WRITTEN];
        for (int t = 0; t < WRITTEN; t++) {
            int sum = a.bits[t] + b.bits[t];
            and[t] = sum == 2 ? 1 : 0;
            or[t] = sum > 0 ? 1 : 0;
            xor[t] = sum == 1 ? 1 : 0;
        }
        dueMade(AND, a, b, and);
        dueMade(OR, a, b, or);
        dueMade(XOR, a, b, xor);
    }

    private static void not(Written a) {
        CHECKS.sentence("NOT a: each the other one");
        int[] want = new int[WRITTEN];
        for (int t = 0; t < WRITTEN; t++) {
            want[t] = a.bits[t] == 1 ? 0 : 1;
        }
        dueMade(NOT, a, a, want);
    }

    private static void on(Written a, Written b) {
        CHECKS.sentence("a ON b: where a has 0, 0; at the n-th 1 of a TICK n - 1 of b");
        int[] want = new int[WRITTEN];
        int[] ticks = a.ticksOfOnes();
        for (int n = 1; n <= ticks.length; n++) {
            want[ticks[n - 1]] = b.bits[n - 1];
        }
        dueMade(ON, a, b, want);
    }

    private static void by(Written a, Written b) {
        CHECKS.sentence("a BY b: the TICKS of a at which b has 1, one behind the other (b must have 1s ..)");
        PeriodWords x = new PeriodWords();
        int first = put(x, a.text);
        int second = put(x, b.text);
        if (!b.endless()) {
            CHECKS.dueThrow(a.text + " BY " + b.text, () -> x.make(BY, first, second), IllegalArgumentException.class);
            return;
        }
        int[] ticks = b.ticksOfOnes();
        int[] want = new int[ticks.length];
        for (int n = 0; n < ticks.length; n++) {
            want[n] = a.bits[ticks[n]];
        }
        dueMade(BY, a, b, want);
    }

    private static int[] late(int[] bits, int d) {
        int[] want = new int[WRITTEN];
        System.arraycopy(bits, 0, want, d, WRITTEN - d);
        return want;
    }

    private static void late(Written a) {
        CHECKS.sentence("LATE by d (0 .. 30): d 0s, then a");
        for (int d = 0; d <= 30; d++) {
            PeriodWords x = new PeriodWords();
            int made = x.make(LATE, put(x, a.text), d);
            CHECKS.due(a.text + " LATE by " + d, read(x, made), shortest(late(a.bits, d)));
        }
    }

    private static void halved(Written a) {
        CHECKS.sentence("HALVED: every second 1 of a, from the first one on, the others become 0");
        int[] want = new int[WRITTEN];
        int[] ticks = a.ticksOfOnes();
        for (int n = 0; n < ticks.length; n += 2) {
            want[ticks[n]] = 1;
        }
        dueMade(HALVED, a, a, want);
    }

    // How words are compared

    /** Whether, of all 1s that are written, none of a is behind that of b, or lacks. */
    private static boolean aheadOf(int[] ticksOfA, int[] ticksOfB) {
        for (int n = 0; n < ticksOfB.length; n++) {
            // What a has behind the last TICK that is written is behind b's, too.
            if (n >= ticksOfA.length || ticksOfA[n] > ticksOfB[n]) {
                return false;
            }
        }
        return true;
    }

    private static void ahead(Written a, Written b) {
        CHECKS.sentence("a is AHEAD of b: for each n for which b has an n-th 1, a has one .. not behind");
        PeriodWords x = new PeriodWords();
        int first = put(x, a.text);
        int second = put(x, b.text);
        boolean want = aheadOf(a.ticksOfOnes(), b.ticksOfOnes());
        CHECKS.due(a.text + " ahead of " + b.text, x.ahead(first, second), want);
    }

    private static void storeAndMissing(Written a, Written b) {
        CHECKS.sentence("KEPT .. THE STORE is the most of it, MISSING the most by which it ever is below 0");
        int most = 0;
        int below = 0;
        int late = 0;
        int kept = 0;
        for (int n = 0; n < WRITTEN; n++) {
            if (kept > most || -kept > below) {
                late = n;
            }
            most = Math.max(most, kept);
            below = Math.max(below, -kept);
            kept += a.bits[n] - b.bits[n];
        }
        // What goes on growing behind a round of both rings has no end: RATES are not alike.
        boolean end = late <= SETTLED;
        PeriodWords x = new PeriodWords();
        int first = put(x, a.text);
        int second = put(x, b.text);
        String names = a.text + " and " + b.text;
        CHECKS.due("THE STORE of " + names, Checks.answerOf(() -> x.between(first, second, 0)), end ? most : NO_END);
        CHECKS.due("MISSING of " + names, Checks.answerOf(() -> x.between(first, second, 1)), end ? below : NO_END);
    }

    private static void theWait(Written a, Written b) {
        CHECKS.sentence("THE WAIT for a and b: the least d, 0 or more, so that a is AHEAD of b LATE by d");
        int[] ticks = a.ticksOfOnes();
        Object want = NO_END;
        for (int d = LONG_WAIT; d >= 0; d--) {
            if (!aheadOf(ticks, new Written("", late(b.bits, d)).ticksOfOnes())) {
                break;
            }
            want = d;
        }
        PeriodWords x = new PeriodWords();
        int first = put(x, a.text);
        int second = put(x, b.text);
        CHECKS.due("THE WAIT of " + a.text + " and " + b.text,
            Checks.answerOf(() -> x.between(first, second, 2)), want);
    }
}
