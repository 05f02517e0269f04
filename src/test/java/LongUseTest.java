import java.util.ArrayList;
import java.util.List;
import java.util.NoSuchElementException;
import java.util.function.Supplier;

/** "An object is used for at most 512 calls": of whatever kind they are, up to the last one. */
public final class LongUseTest extends WordTexts {
    private static final Checks CHECKS = new Checks();
    private static final int MOST_CALLS = 512;
    private static final String NO_SUCH = "throws." + NoSuchElementException.class.getSimpleName();
    private static final String NO_END = "throws.ArithmeticException";
    private static final String NO_WORD = "throws.IllegalArgumentException";

    private final PeriodWords x = new PeriodWords();
    private final String name;
    private int calls = 0;

    private LongUseTest(String name) {
        this.name = name;
    }

    public static void main(String[] args) {
        CHECKS.sentence("An object is used for at most 512 calls after it has been made");
        wordAndClear();
        makeAndClear();
        clearAlone();
        asking();
        throwing();
        refused();
        dearest();
        CHECKS.sentence("1: PeriodWords(): No WORDS");
        sideBySide();
        CHECKS.sentence("11: All WORDS are gone");
        clearIsAsNew();
        CHECKS.end("LongUseTest");
    }

    private boolean more() {
        return calls < MOST_CALLS;
    }

    /** One call, if there is one left of the 512. */
    private void ask(String call, Supplier<Object> ask, Object want) {
        if (more()) {
            calls++;
            CHECKS.due(name + ", call " + calls + ": " + call, Checks.answerOf(ask), want);
        }
    }

    private void clear() {
        ask("clear", () -> {
            x.clear();
            return "done";
        }, "done");
    }

    private void word(int head, int headBits, int ring, int ringBits, int want) {
        ask("word", () -> x.word(head, headBits, ring, ringBits), want);
    }

    private void make(int how, int a, int b, Object want) {
        ask("make(" + how + ", " + a + ", " + b + ")", () -> x.make(how, a, b), want);
    }

    private void between(int a, int b, int what, Object want) {
        ask("between(" + a + ", " + b + ", " + what + ")", () -> x.between(a, b, what), want);
    }

    private static void wordAndClear() {
        LongUseTest use = new LongUseTest("word and clear");
        while (use.more()) {
            for (int i = 0; i < 40; i++) {
                use.word(30, 1 << 29, 30, 1 << (i % 30), i);
            }
            use.word(0, 0, 1, 1, NONE);
            use.clear();
        }
        // 512 is 12 * 42 + 8, and the 8th of these is the WORD with number 7.
        CHECKS.due("total behind them", use.x.total(), 8);
        CHECKS.due("the last one", use.x.bit(7, 37), 1);
    }

    private static void makeAndClear() {
        LongUseTest use = new LongUseTest("make and clear");
        while (use.more()) {
            use.word(0, 0, 3, 3, 0);
            for (int i = 1; i < 40; i++) {
                use.make(NOT, i - 1, 0, i);
            }
            use.make(NOT, 39, 0, NONE);
            use.ask("same(39)", () -> use.x.same(39), 1);
            use.clear();
        }
    }

    private static void clearAlone() {
        LongUseTest use = new LongUseTest("clear");
        for (int i = 0; i < 510; i++) {
            use.clear();
        }
        use.word(0, 0, 2, 1, 0);
        use.ask("total", () -> use.x.total(), 1);
    }

    private static void asking() {
        LongUseTest use = new LongUseTest("asking");
        PeriodWords x = use.x;
        // 101|1100 and |10: KEPT is 0 and 1 by turns, and the 1s of the second one fall 2 TICKS behind.
        use.word(3, 5, 4, 3, 0);
        use.word(0, 0, 2, 1, 1);
        while (use.more()) {
            use.ask("form", () -> x.form(0, 3), 2);
            use.ask("bit", () -> x.bit(0, 1000000000), 1);
            use.ask("ones", () -> x.ones(1, 1000000000), 500000000);
            use.ask("at", () -> x.at(1, 1000000), 1999998);
            use.ask("same", () -> x.same(1), 1);
            use.ask("ahead", () -> x.ahead(0, 1), true);
            use.between(0, 1, 0, 1);
            use.between(0, 1, 1, 0);
            use.between(1, 0, 2, 2);
            use.ask("total", () -> x.total(), 2);
        }
    }

    private static void throwing() {
        LongUseTest use = new LongUseTest("throwing");
        use.word(2, 3, 1, 0, 0);
        use.word(0, 0, 1, 1, 1);
        while (use.more()) {
            use.ask("at", () -> use.x.at(0, 3), NO_SUCH);
            use.make(BY, 1, 0, NO_WORD);
            use.between(0, 1, 0, NO_END);
            use.between(0, 1, 2, NO_END);
            use.ask("total", () -> use.x.total(), 2);
        }
    }

    private static void refused() {
        LongUseTest use = new LongUseTest("refused");
        use.word(0, 0, 29, 1, 0);
        use.word(0, 0, 30, 1, 1);
        for (int i = 2; i < 511; i++) {
            use.make(OR, 0, 1, NONE);
        }
        use.make(AND, 0, 0, 2);
    }

    /** The longest walks there are: rings of 60 and 58 bits, and a wait of 3659. */
    private static void dearest() {
        LongUseTest use = new LongUseTest("dearest");
        use.word(30, -1, 1, 0, 0);
        use.make(LATE, 0, 30, 1);
        use.make(OR, 0, 1, 2);
        use.word(0, 0, 30, 1, 3);
        use.make(HALVED, 3, 0, 4);
        use.make(OR, 2, 4, 5);
        use.make(NOT, 2, 0, 6);
        use.word(0, 0, 30, 1 << 29, 7);
        use.make(HALVED, 7, 0, 8);
        use.make(LATE, 8, 30, 9);
        use.make(AND, 9, 6, 10);
        use.word(0, 0, 29, 1, 11);
        use.make(HALVED, 11, 0, 12);
        while (use.more()) {
            use.between(10, 5, 2, 3659);
            use.between(10, 5, 1, 61);
            use.between(5, 10, 0, 61);
            use.make(ON, 5, 12, NONE);
            use.make(ON, 4, 10, NONE);
            use.make(XOR, 5, 12, NONE);
            use.ask("ahead", () -> use.x.ahead(12, 10), true);
        }
        CHECKS.due("total behind them", use.x.total(), 13);
    }

    /** What one object keeps is not seen by another one, whichever is called first. */
    private static void sideBySide() {
        PeriodWords one = new PeriodWords();
        PeriodWords other = new PeriodWords();
        for (int i = 0; i < 40; i++) {
            CHECKS.due("number of the one", one.word(0, 0, 30, 1 << (i % 30)), i);
            CHECKS.due("total of the other", other.total(), i);
            CHECKS.due("number of the other", other.word(0, 0, 1, i % 2), i);
            CHECKS.due("ring of the one", one.form(i, 1), 30);
            CHECKS.due("ring of the other", other.form(i, 1), 1);
        }
        one.clear();
        CHECKS.due("total of the one behind its clear", one.total(), 0);
        CHECKS.due("total of the other behind it", other.total(), 40);
        CHECKS.due("same of the other behind it", other.same(39), 1);
        CHECKS.due("a third one", new PeriodWords().total(), 0);
    }

    /** Behind clear an object answers as a new one does. */
    private static void clearIsAsNew() {
        PeriodWords used = new PeriodWords();
        answersOfARun(used);
        used.clear();
        List<Object> again = answersOfARun(used);
        CHECKS.due("a run behind clear", again, answersOfARun(new PeriodWords()));
    }

    private static List<Object> answersOfARun(PeriodWords x) {
        List<Object> answers = new ArrayList<>();
        answers.add(x.word(2, 1, 3, 3));
        answers.add(x.word(0, 0, 5, 9));
        for (int how = 0; how <= 8; how++) {
            int kind = how;
            answers.add(Checks.answerOf(() -> x.make(kind, 0, 1)));
        }
        for (int a = -1; a <= 12; a++) {
            answers.add(read(x, a));
            answers.add(x.same(a));
            answers.add(x.ahead(a, 1));
            for (int what = 0; what <= 2; what++) {
                int number = a;
                int kind = what;
                answers.add(Checks.answerOf(() -> x.between(number, 0, kind)));
            }
        }
        answers.add(x.total());
        return answers;
    }
}
