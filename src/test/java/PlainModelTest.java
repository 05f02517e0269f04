import java.util.Random;
import java.util.function.Supplier;

/** Long runs of calls, each answer compared with the plain model's; the seeds are fixed. */
public final class PlainModelTest {
    private static final Checks CHECKS = new Checks();
    private static final int RUNS = 120;
    private static final int CALLS = 512;

    private final Random random;
    private final int longest;
    private final String name;
    private final PeriodWords words = new PeriodWords();
    private final PlainModel model = new PlainModel();

    private PlainModelTest(int seed) {
        random = new Random(seed);
        name = "seed " + seed + ": ";
        // Short rings give many words that can be made; long ones go to the limits.
        longest = new int[] {3, 6, 12, 30}[seed % 4];
    }

    public static void main(String[] args) {
        for (int seed = 0; seed < RUNS; seed++) {
            PlainModelTest run = new PlainModelTest(seed);
            for (int i = 0; i < CALLS; i++) {
                run.call();
            }
        }
        CHECKS.end("PlainModelTest");
    }

    private int upTo(int last) {
        return random.nextInt(last + 1);
    }

    /** A number of a word, now and then of none. */
    private int number() {
        int total = model.total();
        return random.nextInt(25) == 0 || total == 0 ? upTo(42) - 1 : random.nextInt(total);
    }

    private void call() {
        switch (random.nextInt(100) / 5) {
            case 0:
                word();
                break;
            case 1:
                wordOfCommonRate();
                break;
            case 2, 3, 4, 5, 6:
                make();
                break;
            case 7:
                kind("form", number(), upTo(6) - 1);
                break;
            case 8:
                kind("bit", number(), upTo(200) - 1);
                break;
            case 9, 10:
                kind("ones", number(), upTo(400) - 1);
                break;
            case 11, 12:
                kind("at", number(), upTo(random.nextInt(10) == 0 ? 5000 : 70));
                break;
            case 13, 14:
                kind("same", number(), 0);
                break;
            case 15:
                kind("ahead", number(), number());
                break;
            case 16, 17, 18:
                between();
                break;
            default:
                clearNowAndThen();
                break;
        }
    }

    private void word() {
        int head = random.nextInt(20) == 0 ? upTo(33) - 1 : upTo(longest);
        int ring = random.nextInt(20) == 0 ? upTo(33) : 1 + random.nextInt(longest);
        wordOf(head, bits(), ring, bits());
    }

    /** Words of one RATE with rings of unlike lengths: only these have a STORE between them. */
    private void wordOfCommonRate() {
        int q = 2 + random.nextInt(3);
        int rounds = 1 + random.nextInt(30 / q);
        int ring = q * rounds;
        int ringBits = 0;
        for (int i = 0; i < 10000 && Integer.bitCount(ringBits) < rounds; i++) {
            ringBits |= 1 << random.nextInt(ring);
        }
        wordOf(upTo(longest), bits(), ring, ringBits);
    }

    private void wordOf(int head, int headBits, int ring, int ringBits) {
        due("word(" + head + ", " + headBits + ", " + ring + ", " + ringBits + ")",
            () -> words.word(head, headBits, ring, ringBits),
            () -> model.word(head, headBits, ring, ringBits));
    }

    /** Thin, thick and mixed bits: what is thin or thick is refused later. */
    private int bits() {
        int thin = random.nextInt() & random.nextInt() & random.nextInt();
        switch (random.nextInt(6)) {
            case 0:
                return thin;
            case 1:
                return ~thin;
            case 2:
                return 1 << upTo(31);
            case 3:
                return 0;
            default:
                return random.nextInt();
        }
    }

    private void make() {
        int how = upTo(9) - 1;
        int a = number();
        int b = how == 6 ? upTo(33) - 1 : number();
        due("make(" + how + ", " + a + ", " + b + ")", () -> words.make(how, a, b), () -> model.make(how, a, b));
    }

    private void between() {
        int a = number();
        int b = number();
        int what = random.nextInt(10) == 0 ? upTo(4) - 1 : upTo(2);
        due("between(" + a + ", " + b + ", " + what + ")",
            () -> words.between(a, b, what), () -> model.between(a, b, what));
    }

    private void clearNowAndThen() {
        if (model.total() == 40 && random.nextInt(2) == 0) {
            words.clear();
            model.clear();
        }
        due("total()", () -> words.total(), () -> model.total());
    }

    private void kind(String method, int a, int b) {
        due(method + "(" + a + ", " + b + ")", () -> ofWords(method, a, b), () -> ofModel(method, a, b));
    }

    private Object ofWords(String method, int a, int b) {
        switch (method) {
            case "form":
                return words.form(a, b);
            case "bit":
                return words.bit(a, b);
            case "ones":
                return words.ones(a, b);
            case "at":
                return words.at(a, b);
            case "same":
                return words.same(a);
            default:
                return words.ahead(a, b);
        }
    }

    private Object ofModel(String method, int a, int b) {
        switch (method) {
            case "form":
                return model.form(a, b);
            case "bit":
                return model.bit(a, b);
            case "ones":
                return model.ones(a, b);
            case "at":
                return model.at(a, b);
            case "same":
                return model.same(a);
            default:
                return model.ahead(a, b);
        }
    }

    private void due(String call, Supplier<Object> got, Supplier<Object> want) {
        CHECKS.due(name + call, Checks.answerOf(got), Checks.answerOf(want));
    }
}
