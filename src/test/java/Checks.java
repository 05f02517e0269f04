import java.util.function.Supplier;

/** Counts answers that are not as due, prints each of them, and ends the program by that. */
final class Checks {
    private int asked = 0;
    private int wrong = 0;
    private String sentence = "";

    /** The sentence of the document that the answers from here on belong to. */
    void sentence(String text) {
        sentence = "[" + text + "] ";
    }

    void due(String call, Object got, Object want) {
        asked++;
        if (!want.equals(got)) {
            wrong++;
            System.out.println(sentence + call + " answered " + got + ", due is " + want);
        }
    }

    void dueThrow(String call, Supplier<Object> ask, Class<? extends RuntimeException> want) {
        due(call, answerOf(ask), "throws." + want.getSimpleName());
    }

    /** What a call answers, or throws.X with the exact class of the exception. */
    static Object answerOf(Supplier<Object> ask) {
        try {
            return ask.get();
        } catch (RuntimeException e) {
            return "throws." + e.getClass().getSimpleName();
        }
    }

    void end(String name) {
        System.out.println(name + ": " + asked + " answers asked, " + wrong + " not as due");
        if (wrong != 0 || asked == 0) {
            System.exit(1);
        }
    }
}
