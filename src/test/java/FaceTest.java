import java.lang.reflect.Constructor;
import java.lang.reflect.Field;
import java.lang.reflect.Method;
import java.lang.reflect.Modifier;
import java.util.Arrays;
import java.util.List;
import java.util.Map;
import java.util.Set;
import java.util.TreeMap;
import java.util.TreeSet;

/** The public face: the document's constants, constructor and methods, and nothing else that can be seen. */
public final class FaceTest {
    private static final String X = " throws IndexOutOfBoundsException";
    private static final String A = " throws IllegalArgumentException";
    private static final String S = " throws IllegalStateException";
    private static final String XA = X + " IllegalArgumentException";
    private static final String XS = X + " IllegalStateException";
    private static final String AS = A + " IllegalStateException";
    private static final String XAS = XA + " IllegalStateException";

    private static final String[] METHODS = {
        "int topic(int,int,boolean)" + AS, "int retain(int,int,int)" + XAS, "int compact(int)" + XS,
        "int fail(int)" + XS, "int restore(int)" + XS, "int fetch(int)" + XS, "int speed(int)" + A,
        "int tick(int)" + A, "int producer()" + S, "int quota(int,int)" + XA, "int send(int,int,int,int)" + XAS,
        "int sendSome(int,int,int,int)" + XA, "int sendLater(int,int,int,int,int)" + XAS,
        "int resend(int,int)" + XS, "int begin(int)" + XS, "int attach(int,int,int)" + XS, "int commit(int)" + XS,
        "int abort(int)" + XS, "int group(int)" + AS, "int join(int)" + XS, "int leave(int,int)" + X,
        "int beat(int,int)" + X, "int credits(int,int,int)" + XAS, "int read(int,int)" + X,
        "int done(int,int,int)" + XS, "int retry(int,int,int)" + XS, "int commitOffsets(int,int)" + X,
        "int seek(int,int,int)" + XAS, "int message(int,int)" + XA, "int at(int,int)" + X,
        "int partition(int,int)" + XA, "int replica(int,int,int)" + XA, "int offsetAt(int,int)" + X,
        "int value(int,int)" + X, "int sum(int,int,int,int)" + X, "int share(int,int,int)" + XA,
        "int member(int,int,int)" + XA, "int hand(int,int,int,int)" + XA, "int waits(int,int,int)" + XA,
        "int dead(int,int)" + X, "int seen(int,int)" + X, "int count(int)" + A, "int ofGroup(int,int)" + XA,
        "boolean audit(int)" + A, "int digest()",
    };

    private static final List<String> CONSTANTS = Arrays.asList("NONE=-1", "WAITING=0", "STORED=1", "CUT=2",
            "REMOVED=3", "PLAIN=0", "OPEN=1", "COMMITTED=2", "ABORTED=3");

    public static void main(String[] args) throws IllegalAccessException {
        Check check = new Check();
        check.text("the class", "public final", Modifier.toString(MessageBroker.class.getModifiers()));
        checkMethods(check);
        check.text("constants", new TreeSet<>(CONSTANTS).toString(), constants(check).toString());
        Constructor<?>[] constructors = MessageBroker.class.getDeclaredConstructors();
        check.same("constructors", 1, constructors.length);
        check.text("constructor", "public MessageBroker()", constructors[0].toString());
        checkPrivateNames(check);
        checkClassesInside(check);
        check.end();
    }

    private static void checkMethods(Check check) {
        Map<String, String> due = new TreeMap<>();
        for (String method : METHODS) {
            due.put(method.substring(0, method.indexOf(')') + 1), method);
        }
        Set<String> found = new TreeSet<>();
        for (Method method : MessageBroker.class.getDeclaredMethods()) {
            if (!Modifier.isPrivate(method.getModifiers()) && !method.isSynthetic()) {
                String head = head(method);
                found.add(head);
                for (Class<?> thrown : method.getExceptionTypes()) {
                    boolean isTold = due.getOrDefault(head, "").contains(" " + thrown.getSimpleName());
                    check.yes(head + " throws " + thrown.getSimpleName(), isTold);
                }
                check.yes("public: " + head, Modifier.isPublic(method.getModifiers()));
                check.no("static: " + head, Modifier.isStatic(method.getModifiers()));
            }
        }
        check.text("methods", due.keySet().toString(), found.toString());
    }

    private static String head(Method method) {
        StringBuilder text = new StringBuilder();
        text.append(method.getReturnType().getName()).append(' ').append(method.getName()).append('(');
        String gap = "";
        for (Class<?> parameter : method.getParameterTypes()) {
            text.append(gap).append(parameter.getName());
            gap = ",";
        }
        return text.append(')').toString();
    }

    private static Set<String> constants(Check check) throws IllegalAccessException {
        Set<String> found = new TreeSet<>();
        for (Field field : MessageBroker.class.getDeclaredFields()) {
            int modifiers = field.getModifiers();
            if (Modifier.isStatic(modifiers)) {
                check.yes("final: " + field.getName(), Modifier.isFinal(modifiers));
            }
            if (!Modifier.isPrivate(modifiers)) {
                check.text(field.getName(), "public static final", Modifier.toString(modifiers));
                found.add(field.getName() + "=" + field.getInt(null));
            }
        }
        return found;
    }

    private static void checkPrivateNames(Check check) {
        Set<String> faceNames = new TreeSet<>();
        for (String method : METHODS) {
            faceNames.add(method.substring(method.indexOf(' ') + 1, method.indexOf('(')));
        }
        for (Method method : MessageBroker.class.getDeclaredMethods()) {
            if (Modifier.isPrivate(method.getModifiers())) {
                check.yes("a name of its own: " + method.getName(), !faceNames.contains(method.getName()));
            }
        }
    }

    private static void checkClassesInside(Check check) {
        for (Class<?> inside : MessageBroker.class.getDeclaredClasses()) {
            int modifiers = inside.getModifiers();
            check.yes("static: " + inside, Modifier.isStatic(modifiers));
            check.yes("not public: " + inside, !Modifier.isPublic(modifiers) && !Modifier.isProtected(modifiers));
            check.yes("some twenty fields: " + inside, fieldsBesideConstants(inside) <= 22);
        }
        check.yes("some twelve classes", MessageBroker.class.getDeclaredClasses().length <= 13);
    }

    private static int fieldsBesideConstants(Class<?> inside) {
        int fields = 0;
        for (Field field : inside.getDeclaredFields()) {
            fields += Modifier.isStatic(field.getModifiers()) || field.isSynthetic() ? 0 : 1;
        }
        return fields;
    }
}
