/** The example of README.md, line by line. */
public final class ReadmeTest {
    private static final Checks CHECKS = new Checks();

    public static void main(String[] args) {
        PeriodWords x = new PeriodWords();
        int a = x.word(0, 0, 3, 0b011);
        CHECKS.due("word(0, 0, 3, 0b011)", a, 0);
        int b = x.make(6, a, 1);
        CHECKS.due("make(6, a, 1)", b, 1);
        CHECKS.due("form(b, 2)", x.form(b, 2), 2);
        CHECKS.due("form(b, 3)", x.form(b, 3), 3);
        CHECKS.due("bit(b, 0)", x.bit(b, 0), 0);
        CHECKS.due("ones(b, 6)", x.ones(b, 6), 4);
        CHECKS.due("at(b, 3)", x.at(b, 3), 4);
        CHECKS.due("same(x.make(6, b, 2))", x.same(x.make(6, b, 2)), 2);
        CHECKS.due("ahead(a, b)", x.ahead(a, b), true);
        CHECKS.due("between(a, b, 0)", x.between(a, b, 0), 1);
        CHECKS.due("between(b, a, 2)", x.between(b, a, 2), 1);
        CHECKS.due("total()", x.total(), 3);
        CHECKS.due("word(31, 0, 1, 1)", x.word(31, 0, 1, 1), PeriodWords.NONE);
        x.clear();
        CHECKS.due("total() behind clear", x.total(), 0);
        CHECKS.end("ReadmeTest");
    }
}
