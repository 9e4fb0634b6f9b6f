import java.util.List;

/**
 * Holds MessageBroker against the Model in long runs of drawn calls: each answer must be the same, so must be the
 * digest behind each call, and all questions must be answered alike now and then. The document promises nothing of
 * an object behind its 512th call, so what is asked is shared out to several objects on which the same calls are made.
 */
public final class ModelTest {
    private static final int MOST_CALLS = 512;
    /** A call of the run, and behind it digest() and audit(6). */
    private static final int CALLS_A_STEP = 3;

    private final Check check;
    private final DrawnRun run;

    private ModelTest(Check check, DrawnRun run) {
        this.check = check;
        this.run = run;
    }

    /** With two numbers it draws other runs: the first seed, and how many. */
    public static void main(String[] args) {
        int first = args.length > 0 ? Integer.parseInt(args[0]) : 0;
        int runs = args.length > 1 ? Integer.parseInt(args[1]) : 100;
        Check check = new Check();
        for (int seed = first; seed < first + runs; seed++) {
            check.about("run " + seed);
            DrawnRun run = new DrawnRun(check, seed);
            run.draw();
            new ModelTest(check, run).hold();
        }
        check.end();
    }

    private void hold() {
        if (stepsHold()) {
            for (DrawnRun.Moment moment : run.moments) {
                holdMoment(moment);
            }
        }
    }

    /** Each object makes the steps behind those of the one before, as many as its calls allow. */
    private boolean stepsHold() {
        int first = 0;
        while (first < run.calls.size()) {
            int end = Math.min(run.calls.size(), first + (MOST_CALLS - first) / CALLS_A_STEP);
            check.yes("a step can be made", end > first);
            if (end <= first || !stepsHold(first, end)) {
                return false;
            }
            first = end;
        }
        return true;
    }

    private boolean stepsHold(int first, int end) {
        Caller real = again(first);
        for (int i = first; i < end; i++) {
            DrawnRun.Due call = run.calls.get(i);
            boolean holds = holds(real, call, call.toString());
            holds &= holds(real, new DrawnRun.Due("digest", new int[0], run.digests.get(i)), "digest behind " + call);
            holds &= holds(real, new DrawnRun.Due("audit", new int[] {6}, "1"), "audit behind " + call);
            if (!holds) {
                printTo(i);
                return false;
            }
        }
        return true;
    }

    private void holdMoment(DrawnRun.Moment moment) {
        int room = Math.max(1, MOST_CALLS - moment.calls());
        List<DrawnRun.Due> questions = moment.questions();
        Caller real = null;
        for (int i = 0; i < questions.size(); i++) {
            if (i % room == 0) {
                real = again(moment.calls());
            }
            DrawnRun.Due question = questions.get(i);
            holds(real, question, question + " behind " + moment.calls() + " calls");
        }
    }

    private boolean holds(Caller real, DrawnRun.Due call, String text) {
        String answered = real.call(call.name(), call.numbers());
        check.text(text, call.answer(), answered);
        return call.answer().equals(answered);
    }

    /** A new object on which so many calls of the run were made. */
    private Caller again(int calls) {
        Caller real = new Caller(new MessageBroker());
        for (DrawnRun.Due call : run.calls.subList(0, calls)) {
            real.call(call.name(), call.numbers());
        }
        return real;
    }

    private void printTo(int last) {
        for (DrawnRun.Due call : run.calls.subList(0, last + 1)) {
            System.out.println(call + " -> " + call.answer());
        }
    }
}
