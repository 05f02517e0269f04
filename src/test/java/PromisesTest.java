import java.util.NoSuchElementException;

/** Each promise of the document with ordinary inputs, the edges that it names, and wrong inputs. */
public final class PromisesTest extends WordTexts {
    private static final Checks CHECKS = new Checks();
    private static final int[] WRONG = {Integer.MIN_VALUE, -2, -1, 40, 41, 64, Integer.MAX_VALUE};

    public static void main(String[] args) {
        newObject();
        word();
        wordWithWrongLengths();
        makeBitByBit();
        makeOn();
        makeBy();
        makeLate();
        makeHalved();
        makeWrong();
        makeAsksInOrder();
        makeRefuses();
        form();
        bit();
        ones();
        at();
        same();
        ahead();
        store();
        theWait();
        betweenWrong();
        clear();
        total();
        CHECKS.end("PromisesTest");
    }

    private static void dueMade(int how, String a, String b, String want) {
        CHECKS.due("make " + how + " of " + a + " and " + b, made(how, a, b), want);
    }

    private static PeriodWords full() {
        PeriodWords x = new PeriodWords();
        for (int i = 0; i < 40; i++) {
            CHECKS.due("number of word " + i, x.word(0, 0, 30, 1 << (i % 30)), i);
        }
        return x;
    }

    // Promise 1

    private static void newObject() {
        PeriodWords x = new PeriodWords();
        CHECKS.due("total of a new object", x.total(), 0);
        CHECKS.due("form(0, 0) of a new object", x.form(0, 0), NONE);
        CHECKS.due("same(0) of a new object", x.same(0), NONE);
        PeriodWords y = new PeriodWords();
        put(y, "|10");
        CHECKS.due("total of another object", x.total(), 0);
        CHECKS.due("first number of another object", put(x, "|1"), 0);
    }

    // Promise 2

    private static void word() {
        CHECKS.due("|1", given("|1"), "|1");
        CHECKS.due("|0000", given("|0000"), "|0");
        CHECKS.due("|101010", given("|101010"), "|10");
        CHECKS.due("|110110", given("|110110"), "|110");
        CHECKS.due("|11011", given("|11011"), "|11011");
        CHECKS.due("101|1010", given("101|1010"), "101|10");
        CHECKS.due("1|01", given("1|01"), "|10");
        CHECKS.due("0110|0110", given("0110|0110"), "|0110");
        CHECKS.due("10|110", given("10|110"), "|101");
        CHECKS.due("111|1", given("111|1"), "|1");
        CHECKS.due("0100|0", given("0100|0"), "01|0");
        String longHead = "1" + zeros(28) + "1";
        String longRing = zeros(29) + "1";
        CHECKS.due("30 and 30 bits", given(longHead + "|" + "1" + zeros(29)), longHead + "|1" + zeros(29));
        CHECKS.due("30 and 30 bits", given(zeros(30) + "|" + longRing), zeros(30) + "|" + longRing);
        PeriodWords x = new PeriodWords();
        CHECKS.due("bits beyond", read(x, x.word(3, ~2, 2, 0xFFFFFFFD)), "101|10");
        CHECKS.due("bits beyond, no head", read(x, x.word(0, -1, 3, -8)), "|0");
        CHECKS.due("bits beyond 30", read(x, x.word(30, 0xC0000000, 30, 0xC0000001)), "0|" + zeros(29) + "1");
    }

    private static void wordWithWrongLengths() {
        PeriodWords x = new PeriodWords();
        int[] heads = {Integer.MIN_VALUE, -1, 31, 32, 60, Integer.MAX_VALUE};
        int[] rings = {Integer.MIN_VALUE, -1, 0, 31, 32, 60, Integer.MAX_VALUE};
        for (int head : heads) {
            CHECKS.due("head " + head, x.word(head, 1, 1, 1), NONE);
        }
        for (int ring : rings) {
            CHECKS.due("ring " + ring, x.word(1, 1, ring, 1), NONE);
        }
        CHECKS.due("total behind wrong lengths", x.total(), 0);
        PeriodWords y = full();
        CHECKS.due("the 41st", y.word(0, 0, 1, 1), NONE);
        CHECKS.due("total behind the 41st", y.total(), 40);
    }

    // Promise 3

    private static void makeBitByBit() {
        dueMade(AND, "|10", "|110", "|100010");
        dueMade(OR, "|10", "|100", "|101110");
        dueMade(XOR, "|10", "|100", "|001110");
        dueMade(XOR, "|10", "|01", "|1");
        dueMade(XOR, "|110", "|110", "|0");
        dueMade(AND, "1|10", "011|1", "|01");
        dueMade(OR, "01|0", "001|0", "011|0");
        dueMade(AND, "|1", "10|110", "|101");
        dueMade(NOT, "101|10", "|0", "010|01");
        dueMade(NOT, "|0", "|0", "|1");
        String ones = ones(30);
        dueMade(AND, "|" + ones.substring(1) + "0", "|" + zeros(29) + "1", "|0");
        dueMade(OR, "|" + zeros(29) + "1", "|" + zeros(28) + "1", "none");
    }

    private static void makeOn() {
        dueMade(ON, "|10", "|10", "|1000");
        dueMade(ON, "|110", "|10", "|100");
        dueMade(ON, "|110", "|100", "|100010000");
        dueMade(ON, "|1", "01|110", "01|110");
        dueMade(ON, "01|110", "|1", "01|110");
        dueMade(ON, "0101|0", "01|10", "0001|0");
        dueMade(ON, "|0", "|1", "|0");
        dueMade(ON, "|01", "1110|0", "010101|0");
        dueMade(ON, "1|100", "0|1", "|010");
        // A head of 30 bits, read at one 1 of every 30 only, is a head of far over 60 bits.
        dueMade(ON, "|" + zeros(29) + "1", zeros(29) + "1|0", "none");
        // Its end at TICK 59 is just short enough: AT(2) of a is 59.
        dueMade(ON, "|" + zeros(29) + "1", "01|0", zeros(59) + "1|0");
        dueMade(ON, "|" + zeros(29) + "1", "001|0", "none");
        dueMade(ON, "|" + zeros(29) + "1", "|01", "|" + zeros(59) + "1");
        dueMade(ON, "|" + zeros(29) + "1", "|001", "none");
    }

    private static void makeBy() {
        dueMade(BY, "|110", "|10", "|101");
        dueMade(BY, "|10", "|10", "|1");
        dueMade(BY, "|01", "|10", "|0");
        dueMade(BY, "|110", "|110", "|1");
        dueMade(BY, "1011|0", "|1", "1011|0");
        dueMade(BY, "1011|0", "0|1", "011|0");
        dueMade(BY, "10|01", "01|001", "0|01");
        dueMade(BY, "1110|10", "1001|1", "|10");
        dueMade(BY, "|" + zeros(28) + "1", "|" + zeros(29) + "1", "|" + zeros(28) + "1");
        dueMade(BY, "|0", "0000|1", "|0");
    }

    private static void makeLate() {
        PeriodWords x = new PeriodWords();
        int a = put(x, "1|110");
        CHECKS.due("LATE by 0", read(x, x.make(LATE, a, 0)), read(x, a));
        CHECKS.due("LATE by 2", read(x, x.make(LATE, a, 2)), "00" + read(x, a));
        int b = put(x, "|100");
        CHECKS.due("LATE by 1 into the ring", read(x, x.make(LATE, b, 1)), "|010");
        CHECKS.due("LATE by 2 into the ring", read(x, x.make(LATE, b, 2)), "|001");
        CHECKS.due("LATE by 3", read(x, x.make(LATE, b, 3)), "0|001");
        CHECKS.due("LATE by 30", read(x, x.make(LATE, b, 30)), zeros(28) + "|001");
        CHECKS.due("LATE by 31", x.make(LATE, b, 31), NONE);
        CHECKS.due("LATE by -1", x.make(LATE, b, -1), NONE);
        int zero = put(x, "|0");
        CHECKS.due("0s LATE by 30", read(x, x.make(LATE, zero, 30)), "|0");
    }

    private static void makeHalved() {
        dueMade(HALVED, "|1", "|0", "|10");
        dueMade(HALVED, "|110", "|0", "|100");
        dueMade(HALVED, "|10", "|0", "|1000");
        dueMade(HALVED, "1|10", "|0", "1|0010");
        dueMade(HALVED, "111|0", "|0", "101|0");
        dueMade(HALVED, "|0", "|0", "|0");
        dueMade(HALVED, "|" + zeros(29) + "1", "|0", "|" + zeros(29) + "1" + zeros(30));
        PeriodWords x = new PeriodWords();
        int a = x.make(ON, put(x, "|" + zeros(29) + "1"), put(x, "|01"));
        CHECKS.due("a ring of 60 with one 1", x.form(a, 1), 60);
        CHECKS.due("HALVED to a ring of 120", x.make(HALVED, a, 0), NONE);
        CHECKS.due("total behind it", x.total(), 3);
    }

    private static void makeWrong() {
        PeriodWords x = new PeriodWords();
        int a = put(x, "|10");
        int b = put(x, "|110");
        for (int how = 0; how <= 7; how++) {
            for (int wrong : WRONG) {
                CHECKS.due("make(" + how + ") without a", x.make(how, wrong, b), NONE);
            }
            CHECKS.due("make(" + how + ", 2, ..)", x.make(how, 2, b), NONE);
        }
        for (int how : new int[] {AND, OR, XOR, ON, BY}) {
            for (int wrong : WRONG) {
                CHECKS.due("make(" + how + ") without b", x.make(how, a, wrong), NONE);
            }
            CHECKS.due("make(" + how + ", .., 2)", x.make(how, a, 2), NONE);
        }
        for (int how : new int[] {Integer.MIN_VALUE, -1, 8, 9, Integer.MAX_VALUE}) {
            CHECKS.due("make(" + how + ")", x.make(how, a, b), NONE);
        }
        for (int late : new int[] {Integer.MIN_VALUE, -1, 31, Integer.MAX_VALUE}) {
            CHECKS.due("LATE by " + late, x.make(LATE, a, late), NONE);
        }
        CHECKS.due("total behind wrong calls", x.total(), 2);
        for (int wrong : WRONG) {
            CHECKS.due("NOT with any b", read(x, x.make(NOT, a, wrong)), "|01");
            CHECKS.due("HALVED with any b", read(x, x.make(HALVED, a, wrong)), "|1000");
        }
    }

    private static void makeAsksInOrder() {
        PeriodWords x = new PeriodWords();
        int a = put(x, "|10");
        int end = put(x, "111|0");
        int never = put(x, "|0");
        CHECKS.dueThrow("BY 1s with an end", () -> x.make(BY, a, end), IllegalArgumentException.class);
        CHECKS.dueThrow("BY no 1s", () -> x.make(BY, a, never), IllegalArgumentException.class);
        CHECKS.due("BY, no such a", x.make(BY, 3, end), NONE);
        CHECKS.due("total behind the throws", x.total(), 3);
        CHECKS.due("other hows take 1s with an end", read(x, x.make(ON, a, end)), "10101|0");
        for (int i = x.total(); i < 40; i++) {
            put(x, "|1");
        }
        CHECKS.due("BY 1s with an end, with 40", x.make(BY, a, end), NONE);
        for (int how = 0; how <= 7; how++) {
            CHECKS.due("make(" + how + ") with 40", x.make(how, a, a), NONE);
        }
        CHECKS.due("total with 40", x.total(), 40);
    }

    private static void makeRefuses() {
        PeriodWords x = new PeriodWords();
        int a = x.word(30, 1 << 29, 1, 0);
        int late = x.make(LATE, a, 30);
        CHECKS.due("a head of 60", read(x, late), zeros(59) + "1|0");
        CHECKS.due("a head of 61", x.make(LATE, late, 1), NONE);
        CHECKS.due("NOT of a head of 60", read(x, x.make(NOT, late, 0)), ones(59) + "0|1");
        int b = put(x, "|" + "1" + zeros(19));
        int c = put(x, "|" + "1" + zeros(29));
        CHECKS.due("a ring of 60", read(x, x.make(AND, b, c)), "|1" + zeros(59));
        int d = put(x, "|" + "1" + zeros(6));
        int e = put(x, "|" + "1" + zeros(8));
        CHECKS.due("a ring of 63", x.make(AND, d, e), NONE);
        CHECKS.due("total behind what was refused", x.total(), 8);
        // Rings of 28 and 30 come back together after 420, but these 1s never meet.
        int even = put(x, "|" + "1" + zeros(27));
        int odd = put(x, "|" + "01" + zeros(28));
        CHECKS.due("short in its form", read(x, x.make(AND, even, odd)), "|0");
        CHECKS.due("long in its form", x.make(OR, even, odd), NONE);
    }

    // Promise 4

    private static void dueForm(String text, int... want) {
        PeriodWords x = new PeriodWords();
        int a = put(x, text);
        for (int what = 0; what < want.length; what++) {
            CHECKS.due("form(" + text + ", " + what + ")", x.form(a, what), want[what]);
        }
    }

    private static void form() {
        dueForm("101|1010", 3, 2, 1, 2, 2);
        dueForm("|0", 0, 1, 0, 1, 0);
        dueForm("1|000", 1, 1, 0, 1, 1);
        dueForm("0|1", 1, 1, 1, 1, 0);
        dueForm("|110100", 0, 6, 1, 2, 0);
        dueForm("|111100", 0, 6, 2, 3, 0);
        dueForm("110|11010", 1, 5, 3, 5, 1);
        PeriodWords x = new PeriodWords();
        put(x, "|10");
        for (int what : new int[] {Integer.MIN_VALUE, -1, 5, 6, Integer.MAX_VALUE}) {
            CHECKS.due("form(0, " + what + ")", x.form(0, what), NONE);
        }
        for (int wrong : WRONG) {
            CHECKS.due("form(" + wrong + ", 0)", x.form(wrong, 0), NONE);
        }
        CHECKS.due("form(1, 0)", x.form(1, 0), NONE);
    }

    // Promise 5

    private static void bit() {
        PeriodWords x = new PeriodWords();
        put(x, "01|1101000");
        String want = "0111010001101000";
        for (int tick = 0; tick < want.length(); tick++) {
            CHECKS.due("bit(0, " + tick + ")", x.bit(0, tick), want.charAt(tick) - '0');
        }
        // 999999998 is 7 * 142857142 + 4.
        CHECKS.due("the last tick", x.bit(0, 1000000000), 0);
        CHECKS.due("three ticks before it", x.bit(0, 999999997), 1);
        CHECKS.due("one beyond", x.bit(0, 1000000001), NONE);
        CHECKS.due("tick -1", x.bit(0, -1), NONE);
        CHECKS.due("the largest tick", x.bit(0, Integer.MAX_VALUE), NONE);
        CHECKS.due("the least tick", x.bit(0, Integer.MIN_VALUE), NONE);
        CHECKS.due("no word 1", x.bit(1, 0), NONE);
        for (int wrong : WRONG) {
            CHECKS.due("bit(" + wrong + ", 0)", x.bit(wrong, 0), NONE);
        }
    }

    // Promise 6

    private static void ones() {
        PeriodWords x = new PeriodWords();
        put(x, "01|1101000");
        int[] want = {0, 0, 1, 2, 3, 3, 4, 4, 4, 4, 5, 6, 6, 7};
        for (int n = 0; n < want.length; n++) {
            CHECKS.due("ones(0, " + n + ")", x.ones(0, n), want[n]);
        }
        CHECKS.due("ones up to the last", x.ones(0, 1000000000), 1 + 3 * 142857142 + 3);
        int all = put(x, "|1");
        CHECKS.due("ones of 1s", x.ones(all, 1000000000), 1000000000);
        int few = put(x, "0101|0");
        CHECKS.due("ones with an end", x.ones(few, 1000000000), 2);
        CHECKS.due("one beyond", x.ones(0, 1000000001), NONE);
        CHECKS.due("n -1", x.ones(0, -1), NONE);
        CHECKS.due("the largest n", x.ones(0, Integer.MAX_VALUE), NONE);
        CHECKS.due("the least n", x.ones(0, Integer.MIN_VALUE), NONE);
        CHECKS.due("no word 3", x.ones(3, 0), NONE);
        for (int wrong : WRONG) {
            CHECKS.due("ones(" + wrong + ", 0)", x.ones(wrong, 0), NONE);
        }
    }

    // Promise 7

    private static void at() {
        PeriodWords x = new PeriodWords();
        put(x, "01|1101000");
        int[] want = {1, 2, 3, 5, 9, 10, 12, 16};
        for (int n = 1; n <= want.length; n++) {
            CHECKS.due("at(0, " + n + ")", x.at(0, n), want[n - 1]);
        }
        // 999999 1s of the ring are 333333 rounds; the last 1 stands at 3 in its round.
        CHECKS.due("the last one", x.at(0, 1000000), 2 + 7 * 333332 + 3);
        int few = put(x, "0101|0");
        CHECKS.due("second of two", x.at(few, 2), 3);
        CHECKS.dueThrow("third of two", () -> x.at(few, 3), NoSuchElementException.class);
        int never = put(x, "|0");
        CHECKS.dueThrow("first of none", () -> x.at(never, 1), NoSuchElementException.class);
        for (int n : new int[] {Integer.MIN_VALUE, -1, 0, 1000001, Integer.MAX_VALUE}) {
            CHECKS.dueThrow("at(0, " + n + ")", () -> x.at(0, n), NoSuchElementException.class);
        }
        for (int wrong : WRONG) {
            CHECKS.dueThrow("at(" + wrong + ", 1)", () -> x.at(wrong, 1), NoSuchElementException.class);
        }
        CHECKS.dueThrow("no word 3", () -> x.at(3, 1), NoSuchElementException.class);
    }

    // Promise 8

    private static void same() {
        PeriodWords x = new PeriodWords();
        String[] texts = {"|10", "|01", "1|01", "|1010", "0|10", "10|1", "101|0", "|110", "|10110", "00|1", "100|1"};
        int[] want = {0, 1, 0, 0, 1, 5, 6, 7, 8, 9, 10};
        for (int i = 0; i < texts.length; i++) {
            CHECKS.due("same of " + texts[i], x.same(put(x, texts[i])), want[i]);
        }
        CHECKS.due("same of a made one", x.same(x.make(NOT, 1, 0)), 0);
        CHECKS.due("not of a later one", x.same(0), 0);
        CHECKS.due("no word 12", x.same(12), NONE);
        for (int wrong : WRONG) {
            CHECKS.due("same(" + wrong + ")", x.same(wrong), NONE);
        }
    }

    // Promise 9

    private static void dueAhead(String a, String b, boolean want) {
        PeriodWords x = new PeriodWords();
        CHECKS.due(a + " ahead of " + b, x.ahead(put(x, a), put(x, b)), want);
    }

    private static void ahead() {
        dueAhead("|10", "|10", true);
        dueAhead("|10", "|01", true);
        dueAhead("|01", "|10", false);
        dueAhead("|1", "|10", true);
        dueAhead("|10", "|1", false);
        dueAhead("|100", "|010", true);
        dueAhead("|0", "|0", true);
        dueAhead("|0", "1|0", false);
        dueAhead("1|0", "|0", true);
        dueAhead("11|0", "011|0", true);
        dueAhead("11|0", "0111|0", false);
        dueAhead("|01", "000111|0", true);
        dueAhead("|01", "11|0", false);
        dueAhead(ones(30) + "|0", "|" + zeros(29) + "1", false);
        // A long start does not help the slower one for ever.
        dueAhead(ones(30) + "|" + zeros(29) + "1", "|" + zeros(28) + "1", false);
        dueAhead(ones(30) + "|" + zeros(28) + "1", "|" + zeros(29) + "1", true);
        dueAhead("|1100", "|1010", true);
        dueAhead("|1001", "|0110", false);
        dueAhead("|0110", "|1001", false);
        PeriodWords x = new PeriodWords();
        put(x, "|1");
        for (int wrong : WRONG) {
            CHECKS.due("ahead(" + wrong + ", 0)", x.ahead(wrong, 0), false);
            CHECKS.due("ahead(0, " + wrong + ")", x.ahead(0, wrong), false);
        }
        CHECKS.due("ahead(0, 1)", x.ahead(0, 1), false);
        CHECKS.due("ahead(1, 1)", x.ahead(1, 1), false);
    }

    // Promise 10

    private static void dueBetween(String a, String b, int what, Object want) {
        PeriodWords x = new PeriodWords();
        int first = put(x, a);
        int second = put(x, b);
        Object got = Checks.answerOf(() -> x.between(first, second, what));
        CHECKS.due("between " + a + " and " + b + ", " + what, got, want);
    }

    private static void store() {
        String none = "throws.ArithmeticException";
        dueBetween("|10", "|01", 0, 1);
        dueBetween("|10", "|01", 1, 0);
        dueBetween("|01", "|10", 0, 0);
        dueBetween("|01", "|10", 1, 1);
        dueBetween("|0110", "|1001", 0, 1);
        dueBetween("|0110", "|1001", 1, 1);
        dueBetween("|111000", "|01", 0, 2);
        dueBetween("111|0", "0001|0", 0, 3);
        dueBetween("1|0", "0111|0", 1, 2);
        dueBetween("|0", "|0", 0, 0);
        dueBetween("1111|10", "|110100", 0, 2);
        // Rings of 10 and 15 bits stand farthest apart only late in their round of 30.
        dueBetween("|1111000000", "|" + zeros(9) + "111111", 0, 6);
        dueBetween("|1111000000", "|" + zeros(9) + "111111", 1, 0);
        dueBetween("|" + zeros(9) + "111111", "|1111000000", 1, 6);
        dueBetween("|10", "|110", 0, none);
        dueBetween("|10", "|110", 1, none);
        dueBetween("|110", "|10", 0, none);
        dueBetween("11|0", "|01", 1, none);
        dueBetween("|0", "|1", 0, none);
    }

    private static void theWait() {
        String none = "throws.ArithmeticException";
        dueBetween("|10", "|01", 2, 0);
        dueBetween("|01", "|10", 2, 1);
        dueBetween("|000111", "|111000", 2, 3);
        dueBetween("|10", "|1", 2, none);
        dueBetween("|1", "|10", 2, 0);
        dueBetween("000000|1", "|10", 2, 6);
        dueBetween("1|0", "11|0", 2, none);
        dueBetween("001001|0", "11|0", 2, 4);
        dueBetween("001001|0", "1|0", 2, 2);
        dueBetween("|0", "|0", 2, 0);
        // 12 is asked for first at the 7th 1, beyond one round of either ring.
        dueBetween("|" + zeros(9) + "111111", "|1111000000", 2, 12);
        dueBetween("|0", "|01", 2, none);
        dueBetween(ones(30) + "|0", "|" + zeros(29) + "1", 2, none);
        dueBetween("|" + zeros(29) + "1", ones(30) + "|0", 2, 30 * 30 - 1 - 29);
        dueBetween("|" + zeros(29) + "1", ones(30) + "|" + zeros(29) + "1", 2, 30 * 30 - 1 - 29);
        dueBetween("|" + zeros(29) + "1", "|" + zeros(28) + "1", 2, none);
        dueBetween("|" + zeros(28) + "1", "|" + zeros(29) + "1", 2, 0);
    }

    private static void betweenWrong() {
        PeriodWords x = new PeriodWords();
        put(x, "|1");
        put(x, "|10");
        for (int what : new int[] {Integer.MIN_VALUE, -1, 3, 4, Integer.MAX_VALUE}) {
            CHECKS.due("between(0, 1, " + what + ")", x.between(0, 1, what), NONE);
            CHECKS.due("between(1, 0, " + what + ")", x.between(1, 0, what), NONE);
        }
        for (int what = 0; what <= 2; what++) {
            for (int wrong : WRONG) {
                CHECKS.due("between(" + wrong + ", 0, " + what + ")", x.between(wrong, 0, what), NONE);
                CHECKS.due("between(0, " + wrong + ", " + what + ")", x.between(0, wrong, what), NONE);
            }
            CHECKS.due("between(2, 0, " + what + ")", x.between(2, 0, what), NONE);
            CHECKS.due("between(0, 2, " + what + ")", x.between(0, 2, what), NONE);
        }
    }

    // Promise 11

    private static void clear() {
        PeriodWords x = full();
        x.clear();
        CHECKS.due("total behind clear", x.total(), 0);
        CHECKS.due("form behind clear", x.form(0, 0), NONE);
        CHECKS.due("bit behind clear", x.bit(39, 0), NONE);
        CHECKS.due("same behind clear", x.same(0), NONE);
        CHECKS.due("make behind clear", x.make(NOT, 0, 0), NONE);
        CHECKS.due("first number behind clear", put(x, "|100"), 0);
        CHECKS.due("first word behind clear", read(x, 0), "|100");
        CHECKS.due("no second one", x.form(1, 0), NONE);
        CHECKS.due("same is not one of before", x.same(put(x, "|1")), 1);
        x.clear();
        x.clear();
        CHECKS.due("total behind two more", x.total(), 0);
    }

    // Promise 12

    private static void total() {
        PeriodWords x = new PeriodWords();
        for (int i = 0; i < 40; i++) {
            CHECKS.due("total with " + i, x.total(), i);
            int number = i % 2 == 0 ? put(x, "|10") : x.make(NOT, i - 1, 0);
            CHECKS.due("number of " + i, number, i);
        }
        CHECKS.due("total with 40", x.total(), 40);
    }
}
