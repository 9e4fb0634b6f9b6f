import java.lang.reflect.InvocationTargetException;
import java.lang.reflect.Method;
import java.lang.reflect.Modifier;
import java.util.Arrays;
import java.util.Comparator;

/** Counts and prints the answers that are not the ones due; ends the program with 1 if there was one. */
final class Check {
    static final String NO_PLACE = "IndexOutOfBoundsException";
    static final String BAD = "IllegalArgumentException";
    static final String STATE = "IllegalStateException";

    private String about = "";
    private int asked = 0;
    private int wrong = 0;

    /** Runs all methods of an object that take and answer nothing, so that none can be forgotten, and ends. */
    void runAll(Object tests) throws IllegalAccessException, InvocationTargetException {
        Method[] methods = tests.getClass().getDeclaredMethods();
        Arrays.sort(methods, Comparator.comparing(Method::getName));
        for (Method method : methods) {
            boolean isTest = method.getParameterCount() == 0 && method.getReturnType() == void.class;
            if (isTest && !Modifier.isStatic(method.getModifiers())) {
                int before = asked;
                method.setAccessible(true);
                method.invoke(tests);
                yes(method.getName() + " checks something", asked > before);
            }
        }
        end();
    }

    /** Names what the checks from here on are about. */
    void about(String what) {
        about = what;
    }

    void same(String call, int due, int answered) {
        text(call, Integer.toString(due), Integer.toString(answered));
    }

    void yes(String call, boolean answered) {
        text(call, "true", Boolean.toString(answered));
    }

    void no(String call, boolean answered) {
        text(call, "false", Boolean.toString(answered));
    }

    void text(String call, String due, String answered) {
        asked++;
        if (!due.equals(answered)) {
            wrong++;
            System.out.println(about + ": " + call + " answered " + answered + ", due is " + due);
        }
    }

    void end() {
        System.out.println(asked + " checks, " + wrong + " wrong");
        if (wrong != 0) {
            System.exit(1);
        }
    }
}
