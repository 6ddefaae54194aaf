import java.util.NoSuchElementException;
import java.util.Set;

/** Counts the answers of calls that are not as due, and prints them. */
final class Checks {
    /** A call that answers something, or throws. */
    interface Call {
        Object answer();
    }

    /** All that the document lets a call throw; the machine throws classes below these, or others. */
    private static final Set<Class<?>> DOCUMENT = Set.of(IllegalStateException.class, IllegalArgumentException.class,
            IndexOutOfBoundsException.class, UnsupportedOperationException.class, NoSuchElementException.class);

    private final String title;
    private String sentence = "";
    private int asked;
    private int wrong;

    Checks(String title) {
        this.title = title;
    }

    /** Names the sentence of the document, with the number of its promise, that the next answers belong to. */
    void sentence(String words) {
        sentence = words + " | ";
    }

    /** The answer as a text; an exception of the program as "throws." and its name. */
    static String answerOf(Call call) {
        try {
            return String.valueOf(call.answer());
        } catch (RuntimeException e) {
            return nameOf(e);
        }
    }

    /**
     * What the machine or the library throws bears another mark, so that it is never as due. The class is looked
     * at too, as the machine's own exceptions name the program's method as their thrower.
     */
    private static String nameOf(RuntimeException e) {
        StackTraceElement[] trace = e.getStackTrace();
        String thrower = trace.length == 0 ? "" : trace[0].getClassName();
        boolean byProgram = thrower.equals("Signatory") || thrower.startsWith("Signatory$");
        boolean byReference = thrower.equals("PlainSignatory");
        boolean due = DOCUMENT.contains(e.getClass()) && (byProgram || byReference);
        return (due ? "throws." : "THE MACHINE THROWS ") + e.getClass().getSimpleName();
    }

    void due(String what, Object want, Call call) {
        asked++;
        String got = answerOf(call);
        if (!got.equals(String.valueOf(want))) {
            wrong++;
            System.out.println(sentence + what + ": answered " + got + ", due is " + want);
        }
    }

    void index(String what, Call call) {
        due(what, "throws.IndexOutOfBoundsException", call);
    }

    void argument(String what, Call call) {
        due(what, "throws.IllegalArgumentException", call);
    }

    void state(String what, Call call) {
        due(what, "throws.IllegalStateException", call);
    }

    void unsupported(String what, Call call) {
        due(what, "throws.UnsupportedOperationException", call);
    }

    void noElement(String what, Call call) {
        due(what, "throws.NoSuchElementException", call);
    }

    /** Prints the count and ends the run with 1 if an answer was not as due. */
    void end() {
        System.out.println(title + ": " + asked + " answers, " + wrong + " not as due");
        if (wrong != 0) {
            System.exit(1);
        }
    }
}
