import java.util.NoSuchElementException;
import java.util.function.Supplier;

/** Each sentence of promises 1 to 12 that names a boundary or a refused call, at it and beside it. */
public final class BoundaryPromisesTest extends WordTexts {
    private static final Checks CHECKS = new Checks();
    private static final int LEAST = Integer.MIN_VALUE;
    private static final int MOST = Integer.MAX_VALUE;
    private static final Class<NoSuchElementException> NO_SUCH = NoSuchElementException.class;

    public static void main(String[] args) {
        newObject();
        wordHead();
        wordRing();
        wordTickZero();
        wordBitsBeyond();
        wordFull();
        makeHow();
        makeNoSuchA();
        makeNoSuchB();
        makeAnyB();
        makeLate();
        makeFull();
        makeThrows();
        makeThrowsBehindAllElse();
        form();
        formNoneSuch();
        bit();
        bitNoneSuch();
        ones();
        onesNoneSuch();
        atNumbers();
        atWithAnEnd();
        atNoneSuch();
        same();
        sameNoneSuch();
        ahead();
        betweenWhat();
        betweenNoneSuch();
        betweenThrows();
        clear();
        total();
        CHECKS.end("BoundaryPromisesTest");
    }

    /** Numbers that no word has when there are so many. */
    private static int[] noWords(int count) {
        return new int[] {LEAST, -2, -1, count, count + 1, 40, 41, 64, MOST};
    }

    /** How many words there are: none, some, and up to the limit. */
    private static int[] counts() {
        return new int[] {0, 1, 2, 39, 40};
    }

    private static void dueUnchanged(PeriodWords x, String call, Supplier<Object> ask, Object want) {
        int total = x.total();
        CHECKS.due(call, Checks.answerOf(ask), want);
        CHECKS.due("total behind " + call, x.total(), total);
        CHECKS.due("no word under the next number behind " + call, x.form(total, 0), NONE);
    }

    // Promise 1

    private static void newObject() {
        CHECKS.sentence("1: PeriodWords(): No WORDS");
        PeriodWords x = new PeriodWords();
        CHECKS.due("total", x.total(), 0);
        for (int a : new int[] {-1, 0, 1, 39, 40}) {
            CHECKS.due("form of " + a, x.form(a, 1), NONE);
            CHECKS.due("bit of " + a, x.bit(a, 0), NONE);
            CHECKS.due("ones of " + a, x.ones(a, 0), NONE);
            CHECKS.dueThrow("at of " + a, () -> x.at(a, 1), NO_SUCH);
            CHECKS.due("same of " + a, x.same(a), NONE);
            CHECKS.due("ahead of " + a, x.ahead(a, a), false);
            CHECKS.due("between of " + a, x.between(a, a, 0), NONE);
            CHECKS.due("make of " + a, x.make(NOT, a, 0), NONE);
        }
        CHECKS.due("the first number", x.word(0, 0, 1, 1), 0);
        CHECKS.due("total of another new object", new PeriodWords().total(), 0);
    }

    // Promise 2

    private static void wordHead() {
        CHECKS.sentence("2: a HEAD of head bits (0 .. 30).. NONE if there are no such lengths");
        PeriodWords x = new PeriodWords();
        for (int head : new int[] {LEAST, -31, -1, 31, 32, 60, 61, 64, MOST}) {
            dueUnchanged(x, "head " + head, () -> x.word(head, 1, 1, 0), NONE);
        }
        for (int head = 0; head <= 30; head++) {
            CHECKS.due("head " + head, x.word(head, 1 << 29, 1, 0), head);
            CHECKS.due("form of head " + head, x.form(head, 0), head == 30 ? 30 : 0);
        }
    }

    private static void wordRing() {
        CHECKS.sentence("2: a RING of ring bits (1 .. 30, likewise).. NONE if there are no such lengths");
        PeriodWords x = new PeriodWords();
        for (int ring : new int[] {LEAST, -30, -1, 0, 31, 32, 60, 61, 64, MOST}) {
            dueUnchanged(x, "ring " + ring, () -> x.word(0, 0, ring, 1), NONE);
        }
        dueUnchanged(x, "neither length", () -> x.word(-1, 0, 0, 1), NONE);
        dueUnchanged(x, "neither length", () -> x.word(31, 0, 31, 1), NONE);
        for (int ring = 1; ring <= 30; ring++) {
            CHECKS.due("ring " + ring, x.word(0, 0, ring, 1), ring - 1);
            CHECKS.due("form of ring " + ring, x.form(ring - 1, 1), ring);
        }
    }

    private static void wordTickZero() {
        CHECKS.sentence("2: TICK 0 is the lowest bit of headBits.. likewise");
        PeriodWords x = new PeriodWords();
        int a = x.word(30, 1, 30, 1 << 29);
        CHECKS.due("lowest bit of the head", x.bit(a, 0), 1);
        CHECKS.due("highest bit of the ring", x.bit(a, 59), 1);
        CHECKS.due("no other one", x.ones(a, 60), 2);
        int b = x.word(30, 1 << 29, 30, 1);
        CHECKS.due("highest bit of the head", x.bit(b, 29), 1);
        CHECKS.due("lowest bit of the ring", x.bit(b, 30), 1);
        CHECKS.due("no other one", x.ones(b, 60), 2);
    }

    private static void wordBitsBeyond() {
        CHECKS.sentence("2: Bits beyond count for nothing");
        for (int length = 0; length <= 30; length++) {
            PeriodWords x = new PeriodWords();
            int beyond = -1 << length;
            CHECKS.due("head " + length + ", bits beyond", read(x, x.word(length, beyond, 1, 0)), "|0");
            if (length > 0) {
                int last = 1 << (length - 1);
                String want = zeros(length - 1) + "1";
                CHECKS.due("head " + length, read(x, x.word(length, beyond | last, 1, 0)), want + "|0");
                CHECKS.due("ring " + length, read(x, x.word(0, 0, length, beyond | last)), "|" + want);
                CHECKS.due("ring " + length + ", bits beyond", read(x, x.word(0, -1, length, beyond)), "|0");
            }
        }
    }

    private static void wordFull() {
        CHECKS.sentence("2: NONE if .. 40 WORDS");
        PeriodWords x = withWords(38);
        CHECKS.due("the 39th", x.word(0, 0, 2, 1), 38);
        CHECKS.due("the 40th", x.word(0, 0, 3, 1), 39);
        dueUnchanged(x, "the 41st", () -> x.word(0, 0, 4, 1), NONE);
        dueUnchanged(x, "the 41st again", () -> x.word(30, 1, 30, 1), NONE);
        dueUnchanged(x, "the 41st with wrong lengths", () -> x.word(31, 1, 0, 1), NONE);
        CHECKS.due("the 40th is still there", read(x, 39), "|100");
    }

    // Promise 3

    private static void makeHow() {
        CHECKS.sentence("3: how 0 .. 7.. NONE if there are none such, how");
        PeriodWords x = new PeriodWords();
        int a = put(x, "|1100");
        int b = put(x, "|10");
        for (int how : new int[] {LEAST, -2, -1, 8, 9, 15, 16, MOST}) {
            dueUnchanged(x, "how " + how, () -> x.make(how, a, b), NONE);
        }
        String[] want = {"|1000", "|1110", "|0110", "|0011", "|1000", "|10", "|0110", "|1000"};
        for (int how = 0; how <= 7; how++) {
            CHECKS.due("how " + how, read(x, x.make(how, a, b)), want[how]);
        }
    }

    private static void makeNoSuchA() {
        CHECKS.sentence("3: NONE if there are none such (a)");
        for (int count : counts()) {
            PeriodWords x = withWords(count);
            for (int how = 0; how <= 7 && count < 40; how++) {
                for (int wrong : noWords(count)) {
                    CHECKS.due("how " + how + ", a " + wrong, x.make(how, wrong, 0), NONE);
                }
            }
            CHECKS.due("total", x.total(), count);
            if (count > 0 && count < 40) {
                CHECKS.due("the last word as a", x.make(AND, count - 1, 0), count);
            }
        }
    }

    private static void makeNoSuchB() {
        CHECKS.sentence("3: NONE if there are none such (b)");
        for (int count : new int[] {1, 2, 39}) {
            PeriodWords x = withWords(count);
            for (int how : new int[] {AND, OR, XOR, ON, BY}) {
                for (int wrong : noWords(count)) {
                    CHECKS.due("how " + how + ", b " + wrong, x.make(how, 0, wrong), NONE);
                }
            }
            CHECKS.due("total", x.total(), count);
            CHECKS.due("the last word as b", x.make(BY, 0, count - 1), count);
        }
    }

    private static void makeAnyB() {
        CHECKS.sentence("3: for 3 and 7 b counts for nothing");
        int[] any = {LEAST, -1, 0, 1, 2, 30, 31, 39, 40, MOST};
        for (int b : any) {
            PeriodWords x = new PeriodWords();
            int a = put(x, "|110");
            CHECKS.due("NOT with b " + b, read(x, x.make(NOT, a, b)), "|001");
            CHECKS.due("HALVED with b " + b, read(x, x.make(HALVED, a, b)), "|100");
        }
        PeriodWords y = new PeriodWords();
        int a = put(y, "|1");
        int end = put(y, "1|0");
        CHECKS.due("NOT beside 1s with an end", read(y, y.make(NOT, a, end)), "|0");
        CHECKS.due("HALVED beside 1s with an end", read(y, y.make(HALVED, a, end)), "|10");
    }

    private static void makeLate() {
        CHECKS.sentence("3: NONE if there are none such (d, for 6)");
        PeriodWords x = new PeriodWords();
        int a = put(x, "1|0");
        for (int d : new int[] {LEAST, -30, -2, -1, 31, 32, 39, 40, 60, MOST}) {
            dueUnchanged(x, "LATE by " + d, () -> x.make(LATE, a, d), NONE);
        }
        // d is no number of a WORD: 1, 29 and 30 are none here.
        CHECKS.due("LATE by 30", read(x, x.make(LATE, a, 30)), zeros(30) + "1|0");
        CHECKS.due("LATE by 29", read(x, x.make(LATE, a, 29)), zeros(29) + "1|0");
        CHECKS.due("LATE by 0", read(x, x.make(LATE, a, 0)), "1|0");
        CHECKS.due("LATE by 1", read(x, x.make(LATE, a, 1)), "01|0");
        PeriodWords full = withWords(39);
        CHECKS.due("LATE by 31, which is a WORD", full.make(LATE, 0, 31), NONE);
        CHECKS.due("LATE by 30 as the 40th", full.make(LATE, 0, 30), 39);
    }

    private static void makeFull() {
        CHECKS.sentence("3: NONE if .. there are 40");
        for (int how = 0; how <= 7; how++) {
            int kind = how;
            PeriodWords x = withWords(38);
            CHECKS.due("the 39th by how " + how, x.make(how, 0, 0), 38);
            CHECKS.due("the 40th by how " + how, x.make(how, 0, 0), 39);
            dueUnchanged(x, "the 41st by how " + how, () -> x.make(kind, 0, 0), NONE);
        }
    }

    private static void makeThrows() {
        CHECKS.sentence("3: IllegalArgumentException: how is 5, and b has 1s with an end");
        String thrown = "throws.IllegalArgumentException";
        PeriodWords x = new PeriodWords();
        int none = put(x, "|0");
        int one = put(x, "1|0");
        int last = put(x, zeros(29) + "1|0");
        int sixty = sixtyOnes(x);
        int endless = put(x, "|" + zeros(29) + "1");
        for (int b : new int[] {none, one, last, sixty}) {
            for (int a : new int[] {endless, none, b}) {
                dueUnchanged(x, a + " BY " + b, () -> x.make(BY, a, b), thrown);
            }
        }
        CHECKS.due("a may have 1s with an end", read(x, x.make(BY, last, endless)), "1|0");
        CHECKS.due("one 1 of a ring is without an end", read(x, x.make(BY, endless, endless)), "|1");
        for (int how : new int[] {AND, OR, XOR, NOT, ON, LATE, HALVED}) {
            int next = x.total();
            CHECKS.due("how " + how + " with such a b", x.make(how, endless, one), next);
        }
    }

    private static void makeThrowsBehindAllElse() {
        CHECKS.sentence("3: IllegalArgumentException (asked behind all but that it is refused)");
        PeriodWords x = withWords(38);
        int end = put(x, "1|0");
        for (int wrong : noWords(39)) {
            dueUnchanged(x, "no such a: " + wrong, () -> x.make(BY, wrong, end), NONE);
            dueUnchanged(x, "no such b: " + wrong, () -> x.make(BY, end, wrong), NONE);
        }
        CHECKS.dueThrow("with 39", () -> x.make(BY, 0, end), IllegalArgumentException.class);
        CHECKS.due("the 40th", x.make(NOT, 0, 0), 39);
        dueUnchanged(x, "with 40", () -> x.make(BY, 0, end), NONE);
        PeriodWords y = new PeriodWords();
        int few = put(y, "1|0");
        CHECKS.due("how 4", y.make(4, few, few), 1);
        CHECKS.dueThrow("how 5", () -> y.make(5, few, few), IllegalArgumentException.class);
        CHECKS.due("how 6", y.make(6, few, few), 2);
        CHECKS.due("how 8", y.make(8, few, few), NONE);
        // The throw comes before any length is looked at.
        PeriodWords z = new PeriodWords();
        int longHead = headOf(z, 60);
        int longRing = thinRingOf(z, 60);
        CHECKS.dueThrow("a ring of 60 BY a head of 60", () -> z.make(BY, longRing, longHead),
            IllegalArgumentException.class);
    }

    // Promise 4

    private static void dueForm(PeriodWords x, int a, int... want) {
        for (int what = 0; what <= 4; what++) {
            CHECKS.due("what " + what + " of " + a, x.form(a, what), want[what]);
        }
        for (int what : new int[] {LEAST, -2, -1, 5, 6, MOST}) {
            CHECKS.due("what " + what + " of " + a, x.form(a, what), NONE);
        }
    }

    private static void form() {
        CHECKS.sentence("4: what 0 .. 4.. NONE .. for another what");
        PeriodWords x = new PeriodWords();
        dueForm(x, put(x, "1101|111100"), 4, 6, 2, 3, 3);
        dueForm(x, put(x, "|0"), 0, 1, 0, 1, 0);
        dueForm(x, put(x, "|1"), 0, 1, 1, 1, 0);
        int most = x.make(OR, sixtyOnes(x), thinRingOf(x, 60));
        dueForm(x, most, 60, 60, 1, 60, 60);
    }

    private static void formNoneSuch() {
        CHECKS.sentence("4: NONE if there is none such");
        for (int count : counts()) {
            PeriodWords x = withWords(count);
            for (int wrong : noWords(count)) {
                for (int what = -1; what <= 5; what++) {
                    CHECKS.due("form(" + wrong + ", " + what + ")", x.form(wrong, what), NONE);
                }
            }
            if (count > 0) {
                CHECKS.due("the last of " + count, x.form(count - 1, 1), 1);
            }
        }
    }

    // Promise 5

    private static int fortiethOfSixty(PeriodWords x) {
        // 1000000000 is 60 * 16666666 + 40, so the last TICK that may be asked for is a 1.
        return x.make(LATE, x.make(HALVED, put(x, "|" + zeros(10) + "1" + zeros(19)), 0), 30);
    }

    private static void bit() {
        CHECKS.sentence("5: The bit of a WORD at a TICK (0 .. 1000000000)");
        PeriodWords x = new PeriodWords();
        int a = fortiethOfSixty(x);
        CHECKS.due("the last tick but one", x.bit(a, 999999999), 0);
        CHECKS.due("the last tick", x.bit(a, 1000000000), 1);
        int b = put(x, "1|0");
        CHECKS.due("the first tick", x.bit(b, 0), 1);
        CHECKS.due("the second tick", x.bit(b, 1), 0);
        CHECKS.due("the last tick of 0s", x.bit(b, 1000000000), 0);
        int all = put(x, "|1");
        CHECKS.due("the last tick of 1s", x.bit(all, 1000000000), 1);
        for (int wrong : new int[] {LEAST, -2, -1, 1000000001, 1000000002, MOST}) {
            CHECKS.due("tick " + wrong, x.bit(all, wrong), NONE);
            CHECKS.due("tick " + wrong + " of a head", x.bit(b, wrong), NONE);
        }
    }

    private static void bitNoneSuch() {
        CHECKS.sentence("5: NONE if there is none such");
        for (int count : counts()) {
            PeriodWords x = withWords(count);
            for (int wrong : noWords(count)) {
                CHECKS.due("bit(" + wrong + ", 0)", x.bit(wrong, 0), NONE);
                CHECKS.due("bit(" + wrong + ", -1)", x.bit(wrong, -1), NONE);
                CHECKS.due("bit(" + wrong + ", 1000000001)", x.bit(wrong, 1000000001), NONE);
            }
            if (count > 0) {
                CHECKS.due("the last of " + count, x.bit(count - 1, 0), 1);
            }
        }
    }

    // Promise 6

    private static void ones() {
        CHECKS.sentence("6: ONES(n) of a WORD, n 0 .. 1000000000.. NONE if there is no such .. n");
        PeriodWords x = new PeriodWords();
        int all = put(x, "|1");
        CHECKS.due("n 0", x.ones(all, 0), 0);
        CHECKS.due("n 1", x.ones(all, 1), 1);
        CHECKS.due("n 999999999", x.ones(all, 999999999), 999999999);
        CHECKS.due("n 1000000000", x.ones(all, 1000000000), 1000000000);
        int none = put(x, "|0");
        CHECKS.due("no 1s", x.ones(none, 1000000000), 0);
        int sixty = sixtyOnes(x);
        CHECKS.due("60 1s", x.ones(sixty, 1000000000), 60);
        int thin = fortiethOfSixty(x);
        CHECKS.due("the 1 at the last TICK is not ahead of it", x.ones(thin, 1000000000), 16666666);
        int before = x.make(BY, thin, put(x, "0|1"));
        CHECKS.due("the 1 before the last TICK is", x.ones(before, 1000000000), 16666667);
        CHECKS.due("and not ahead of itself", x.ones(before, 999999999), 16666666);
        for (int wrong : new int[] {LEAST, -2, -1, 1000000001, 1000000002, MOST}) {
            CHECKS.due("n " + wrong, x.ones(all, wrong), NONE);
            CHECKS.due("n " + wrong + " of no 1s", x.ones(none, wrong), NONE);
        }
    }

    private static void onesNoneSuch() {
        CHECKS.sentence("6: NONE if there is no such WORD");
        for (int count : counts()) {
            PeriodWords x = withWords(count);
            for (int wrong : noWords(count)) {
                CHECKS.due("ones(" + wrong + ", 0)", x.ones(wrong, 0), NONE);
                CHECKS.due("ones(" + wrong + ", 1)", x.ones(wrong, 1), NONE);
                CHECKS.due("ones(" + wrong + ", -1)", x.ones(wrong, -1), NONE);
            }
            if (count > 0) {
                CHECKS.due("the last of " + count, x.ones(count - 1, 1), 1);
            }
        }
    }

    // Promise 7

    private static void atNumbers() {
        CHECKS.sentence("7: NoSuchElementException: .. n is not 1 .. 1000000");
        PeriodWords x = new PeriodWords();
        int all = put(x, "|1");
        CHECKS.due("n 1", x.at(all, 1), 0);
        CHECKS.due("n 2", x.at(all, 2), 1);
        CHECKS.due("n 999999", x.at(all, 999999), 999998);
        CHECKS.due("n 1000000", x.at(all, 1000000), 999999);
        int thin = x.make(LATE, x.make(LATE, thinRingOf(x, 60), 30), 29);
        CHECKS.due("n 1 of one in 60", x.at(thin, 1), 59);
        CHECKS.due("n 1000000 of one in 60", x.at(thin, 1000000), 59999999);
        int head = x.make(XOR, thin, headOf(x, 60));
        CHECKS.due("n 1000000 behind a head of 60", x.at(head, 1000000), 60000059);
        for (int wrong : new int[] {LEAST, -2, -1, 0, 1000001, 1000002, MOST}) {
            CHECKS.dueThrow("n " + wrong, () -> x.at(all, wrong), NO_SUCH);
            CHECKS.dueThrow("n " + wrong + " of one in 60", () -> x.at(thin, wrong), NO_SUCH);
        }
    }

    private static void atWithAnEnd() {
        CHECKS.sentence("7: NoSuchElementException: .. it has no n-th 1");
        PeriodWords x = new PeriodWords();
        int none = put(x, "|0");
        int one = put(x, zeros(29) + "1|0");
        int sixty = sixtyOnes(x);
        for (int n : new int[] {0, 1, 2, 1000000, 1000001}) {
            CHECKS.dueThrow(n + " of none", () -> x.at(none, n), NO_SUCH);
        }
        CHECKS.due("1 of one", x.at(one, 1), 29);
        CHECKS.dueThrow("2 of one", () -> x.at(one, 2), NO_SUCH);
        CHECKS.due("59 of 60", x.at(sixty, 59), 58);
        CHECKS.due("60 of 60", x.at(sixty, 60), 59);
        CHECKS.dueThrow("61 of 60", () -> x.at(sixty, 61), NO_SUCH);
        CHECKS.dueThrow("1000000 of 60", () -> x.at(sixty, 1000000), NO_SUCH);
        CHECKS.dueThrow("0 of 60", () -> x.at(sixty, 0), NO_SUCH);
    }

    private static void atNoneSuch() {
        CHECKS.sentence("7: NoSuchElementException: there is no such WORD");
        for (int count : counts()) {
            PeriodWords x = withWords(count);
            for (int wrong : noWords(count)) {
                for (int n : new int[] {0, 1, 1000000, 1000001}) {
                    CHECKS.dueThrow("at(" + wrong + ", " + n + ")", () -> x.at(wrong, n), NO_SUCH);
                }
            }
            CHECKS.due("total behind the throws", x.total(), count);
            if (count > 0) {
                CHECKS.due("the last of " + count, x.at(count - 1, 1), 0);
            }
        }
    }

    // Promise 8

    private static void same() {
        CHECKS.sentence("8: The least number of a WORD that is the same");
        PeriodWords x = new PeriodWords();
        for (int i = 0; i < 30; i++) {
            CHECKS.due("same of a new one, " + i, x.same(x.word(0, 0, 30, 1 << i)), i);
        }
        for (int i = 30; i < 40; i++) {
            CHECKS.due("same of the last one, " + i, x.same(x.make(LATE, 0, 29)), 29);
        }
        CHECKS.due("not the one that comes later", x.same(29), 29);
        CHECKS.due("the first of all", x.same(0), 0);
        PeriodWords y = withWords(40);
        for (int i = 0; i < 40; i++) {
            CHECKS.due("same of all alike, " + i, y.same(i), 0);
        }
        sameToTheLastBit();
    }

    private static void sameToTheLastBit() {
        PeriodWords x = new PeriodWords();
        int first = put(x, "11|0");
        CHECKS.due("but for TICK 0, the head's first", x.same(put(x, "01|0")), first + 1);
        int head = headOf(x, 60);
        int ring = x.make(LATE, x.make(LATE, thinRingOf(x, 60), 30), 29);
        int both = x.make(XOR, head, ring);
        CHECKS.due("but for TICK 59, the head's last", x.same(both), both);
        int again = x.make(XOR, both, head);
        CHECKS.due("with it again", x.same(again), ring);
        int notRing = x.make(NOT, ring, 0);
        CHECKS.due("but for the ring's last", x.same(x.make(OR, ring, notRing)), x.total() - 1);
        CHECKS.due("1s alone, put another way", x.same(put(x, "111|1111")), x.total() - 2);
    }

    private static void sameNoneSuch() {
        CHECKS.sentence("8: NONE if there is none such");
        for (int count : counts()) {
            PeriodWords x = withWords(count);
            for (int wrong : noWords(count)) {
                CHECKS.due("same(" + wrong + ")", x.same(wrong), NONE);
            }
            if (count > 0) {
                CHECKS.due("the last of " + count, x.same(count - 1), 0);
            }
        }
    }

    // Promise 9

    private static void ahead() {
        CHECKS.sentence("9: False, too, if there are none such");
        for (int count : counts()) {
            PeriodWords x = withWords(count);
            for (int wrong : noWords(count)) {
                CHECKS.due("ahead(" + wrong + ", 0)", x.ahead(wrong, 0), false);
                CHECKS.due("ahead(0, " + wrong + ")", x.ahead(0, wrong), false);
                CHECKS.due("ahead(" + wrong + ", same)", x.ahead(wrong, wrong), false);
            }
            if (count > 0) {
                CHECKS.due("the last of " + count, x.ahead(count - 1, count - 1), true);
                CHECKS.due("the last and the first", x.ahead(count - 1, 0), true);
            }
        }
        PeriodWords y = new PeriodWords();
        put(y, "|0");
        // Nothing is behind a WORD without 1s, but for what is no WORD.
        CHECKS.due("no WORD ahead of no 1s", y.ahead(1, 0), false);
        CHECKS.due("no 1s ahead of no WORD", y.ahead(0, 1), false);
        CHECKS.due("no 1s ahead of no 1s", y.ahead(0, 0), true);
    }

    // Promise 10

    private static void betweenWhat() {
        CHECKS.sentence("10: what 0: THE STORE, 1: MISSING, 2: THE WAIT.. NONE .. for another what");
        PeriodWords x = new PeriodWords();
        int a = put(x, "11|0");
        int b = put(x, "0000011|0");
        int[] want = {2, 0, 0};
        int[] wantBack = {0, 2, 5};
        for (int what = 0; what <= 2; what++) {
            CHECKS.due("what " + what, x.between(a, b, what), want[what]);
            CHECKS.due("what " + what + " back", x.between(b, a, what), wantBack[what]);
        }
        int fast = put(x, "|1");
        for (int what : new int[] {LEAST, -2, -1, 3, 4, MOST}) {
            CHECKS.due("what " + what, x.between(a, b, what), NONE);
            // Another what is asked first: no ArithmeticException of RATES that are not alike.
            CHECKS.due("what " + what + ", RATES not alike", x.between(a, fast, what), NONE);
        }
    }

    private static void betweenNoneSuch() {
        CHECKS.sentence("10: NONE if there are none such");
        for (int count : counts()) {
            PeriodWords x = withWords(count);
            for (int wrong : noWords(count)) {
                for (int what = -1; what <= 3; what++) {
                    CHECKS.due("between(" + wrong + ", 0)", x.between(wrong, 0, what), NONE);
                    CHECKS.due("between(0, " + wrong + ")", x.between(0, wrong, what), NONE);
                    CHECKS.due("between(" + wrong + ", same)", x.between(wrong, wrong, what), NONE);
                }
            }
            for (int what = 0; what <= 2 && count > 0; what++) {
                CHECKS.due("the last of " + count, x.between(count - 1, count - 1, what), 0);
            }
        }
    }

    private static void betweenThrows() {
        CHECKS.sentence("10: ArithmeticException: RATES are not alike (for 0, 1), or there is no such d (2)");
        PeriodWords x = new PeriodWords();
        int slow = put(x, "|" + zeros(29) + "1");
        int fast = put(x, "|" + zeros(28) + "1");
        int end = put(x, ones(30) + "|0");
        int one = put(x, "1|0");
        for (int what = 0; what <= 1; what++) {
            int kind = what;
            CHECKS.dueThrow("slow, fast, " + what, () -> x.between(slow, fast, kind), ArithmeticException.class);
            CHECKS.dueThrow("fast, slow, " + what, () -> x.between(fast, slow, kind), ArithmeticException.class);
            CHECKS.dueThrow("end, slow, " + what, () -> x.between(end, slow, kind), ArithmeticException.class);
            CHECKS.dueThrow("slow, end, " + what, () -> x.between(slow, end, kind), ArithmeticException.class);
            CHECKS.due("end, one, " + what, x.between(end, one, what), what == 0 ? 29 : 0);
        }
        CHECKS.dueThrow("slow, fast, 2", () -> x.between(slow, fast, 2), ArithmeticException.class);
        CHECKS.due("fast, slow, 2", x.between(fast, slow, 2), 0);
        CHECKS.dueThrow("end, slow, 2", () -> x.between(end, slow, 2), ArithmeticException.class);
        CHECKS.due("slow, end, 2", x.between(slow, end, 2), 870);
        CHECKS.dueThrow("one, end, 2", () -> x.between(one, end, 2), ArithmeticException.class);
        CHECKS.due("end, one, 2", x.between(end, one, 2), 0);
        CHECKS.due("total behind the throws", x.total(), 4);
    }

    // Promise 11

    private static void clear() {
        CHECKS.sentence("11: All WORDS are gone");
        for (int count : counts()) {
            PeriodWords x = withWords(count);
            x.clear();
            CHECKS.due("total behind clear of " + count, x.total(), 0);
            for (int a = 0; a < 40; a++) {
                CHECKS.due("form of " + a + " behind clear", x.form(a, 1), NONE);
                CHECKS.due("same of " + a + " behind clear", x.same(a), NONE);
            }
            CHECKS.due("make behind clear", x.make(AND, 0, 0), NONE);
            for (int a = 0; a < 40; a++) {
                CHECKS.due("number " + a + " behind clear", x.word(0, 0, 2, 1), a);
                CHECKS.due("no word behind it", x.bit(a + 1, 0), NONE);
            }
            CHECKS.due("the 41st behind clear", x.word(0, 0, 2, 1), NONE);
            x.clear();
            x.clear();
            CHECKS.due("total behind two more", x.total(), 0);
            CHECKS.due("the first number behind them", x.word(0, 0, 3, 1), 0);
        }
    }

    // Promise 12

    private static void total() {
        CHECKS.sentence("12: How many WORDS there are");
        for (int count = 0; count <= 42; count++) {
            CHECKS.due("total of " + count, withWords(count).total(), Math.min(count, 40));
        }
        PeriodWords x = withWords(1);
        int end = put(x, "1|0");
        CHECKS.dueThrow("a throw", () -> x.make(BY, 0, end), IllegalArgumentException.class);
        CHECKS.dueThrow("a throw", () -> x.at(end, 2), NO_SUCH);
        CHECKS.dueThrow("a throw", () -> x.between(0, end, 0), ArithmeticException.class);
        CHECKS.due("a wrong call", x.word(31, 0, 1, 0), NONE);
        CHECKS.due("total behind them", x.total(), 2);
        CHECKS.due("one that is there already", x.word(0, 0, 1, 1), 2);
        CHECKS.due("total counts it again", x.total(), 3);
    }
}
