import java.lang.reflect.Constructor;
import java.lang.reflect.Field;
import java.lang.reflect.Method;
import java.lang.reflect.Modifier;
import java.util.Arrays;
import java.util.Set;
import java.util.TreeSet;

/** The document's public face, and that nothing but it can be seen from outside (LANGUAGE.md, rule 1). */
public final class FaceTest {
    private static final Checks CHECKS = new Checks();

    private static final Set<String> METHODS = new TreeSet<>(Arrays.asList(
        "public int word(int,int,int,int)",
        "public int make(int,int,int) throws java.lang.IllegalArgumentException",
        "public int form(int,int)",
        "public int bit(int,int)",
        "public int ones(int,int)",
        "public int at(int,int) throws java.util.NoSuchElementException",
        "public int same(int)",
        "public boolean ahead(int,int)",
        "public int between(int,int,int) throws java.lang.ArithmeticException",
        "public void clear()",
        "public int total()"));

    public static void main(String[] args) {
        classAndConstructor();
        methods();
        fields();
        classesInside();
        CHECKS.end("FaceTest");
    }

    private static void classAndConstructor() {
        CHECKS.due("modifiers of the class", PeriodWords.class.getModifiers(), Modifier.PUBLIC | Modifier.FINAL);
        Constructor<?>[] all = PeriodWords.class.getDeclaredConstructors();
        CHECKS.due("number of constructors", all.length, 1);
        CHECKS.due("the constructor", all[0].toGenericString(), "public PeriodWords()");
        CHECKS.due("the class above it", PeriodWords.class.getSuperclass(), Object.class);
        CHECKS.due("interfaces", PeriodWords.class.getInterfaces().length, 0);
        CHECKS.due("the package", PeriodWords.class.getPackageName(), "");
    }

    private static void methods() {
        Set<String> seen = new TreeSet<>();
        Set<String> publicNames = new TreeSet<>();
        for (Method m : PeriodWords.class.getDeclaredMethods()) {
            if (!Modifier.isPrivate(m.getModifiers())) {
                seen.add(m.toGenericString().replace("PeriodWords.", ""));
                publicNames.add(m.getName());
            }
        }
        CHECKS.due("the methods that can be seen", seen, METHODS);
        for (Method m : PeriodWords.class.getDeclaredMethods()) {
            if (Modifier.isPrivate(m.getModifiers())) {
                CHECKS.due("private " + m.getName() + " bears a public name", publicNames.contains(m.getName()), false);
            }
        }
    }

    private static void fields() {
        CHECKS.due("NONE", PeriodWords.NONE, -1);
        CHECKS.due("NONE as a constant", constantOf(-1), "NONE");
        for (Field f : PeriodWords.class.getDeclaredFields()) {
            String wanted = f.getName().equals("NONE") ? "public static final int PeriodWords.NONE" : "private";
            CHECKS.due("field " + f, f.toString().startsWith(wanted), true);
            if (Modifier.isStatic(f.getModifiers())) {
                CHECKS.due("static field is final: " + f, Modifier.isFinal(f.getModifiers()), true);
            }
        }
    }

    /** A label must be a constant: this compiles only if NONE is one. */
    private static String constantOf(int value) {
        switch (value) {
            case PeriodWords.NONE:
                return "NONE";
            default:
                return "another";
        }
    }

    private static void classesInside() {
        for (Class<?> c : PeriodWords.class.getDeclaredClasses()) {
            int seen = c.getModifiers() & (Modifier.PUBLIC | Modifier.PROTECTED);
            CHECKS.due("who sees " + c.getName(), seen, 0);
            CHECKS.due(c.getName() + " is static", Modifier.isStatic(c.getModifiers()), true);
        }
    }
}
