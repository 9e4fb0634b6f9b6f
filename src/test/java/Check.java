import java.util.function.BooleanSupplier;
import java.util.function.IntSupplier;

/** Counts and prints the answers that are not the ones due; ends the program with 1 if there was one. */
final class Check {
    static final String NO_PLACE = "IndexOutOfBoundsException";
    static final String BAD = "IllegalArgumentException";
    static final String STATE = "IllegalStateException";

    private String about = "";
    private int asked = 0;
    private int wrong = 0;

    /** Names what the checks from here on are about. */
    void about(String what) {
        about = what;
    }

    void same(String call, int due, int answered) {
        text(call, Integer.toString(due), Integer.toString(answered));
    }

    void yes(String call, boolean answered) {
        text(call, "true", Boolean.toString(answered));
    }

    void no(String call, boolean answered) {
        text(call, "false", Boolean.toString(answered));
    }

    /** The call must throw exactly this class, not one below it, as the machine's own would be. */
    void refuses(String call, String due, IntSupplier made) {
        text(call, due, outcome(made));
    }

    void refusesAsked(String call, String due, BooleanSupplier made) {
        text(call, due, outcome(() -> made.getAsBoolean() ? 1 : 0));
    }

    void text(String call, String due, String answered) {
        asked++;
        if (!due.equals(answered)) {
            wrong++;
            System.out.println(about + ": " + call + " answered " + answered + ", due is " + due);
        }
    }

    static String outcome(IntSupplier made) {
        try {
            return Integer.toString(made.getAsInt());
        } catch (RuntimeException thrown) {
            return thrown.getClass().getSimpleName();
        }
    }

    void end() {
        System.out.println(asked + " checks, " + wrong + " wrong");
        if (wrong != 0) {
            System.exit(1);
        }
    }
}
