import java.util.ArrayList;
import java.util.Arrays;
import java.util.List;

/**
 * A run of calls on a new object, each with the answer that is due. No object is asked more often than the
 * document promises answers for.
 */
final class Run {
    private static final int MOST_CALLS = 512;
    private static final int MIN = Integer.MIN_VALUE;
    private static final int MAX = Integer.MAX_VALUE;

    private final Caller caller = new Caller(new MessageBroker());
    private final Check check;
    private final String about;
    private int calls = 0;
    /** The calls that were taken, not those that were refused. */
    private final List<Call> taken = new ArrayList<>();
    /** What the calls that were taken lead to; null while it is not known. */
    private String known = null;

    private record Call(String name, int[] numbers) {
        String text() {
            return name + Arrays.toString(numbers);
        }
    }

    Run(Check check, String about) {
        this.check = check;
        this.about = about;
    }

    private String ask(Call call) {
        check.about(about);
        calls++;
        check.yes("the run has no more than 512 calls", calls <= MOST_CALLS);
        return caller.call(call.name, call.numbers);
    }

    private String take(Call call) {
        String answer = ask(call);
        taken.add(call);
        known = null;
        return answer;
    }

    /** The call must answer this; booleans count 1 or 0. */
    Run due(int answer, String name, int... numbers) {
        Call call = new Call(name, numbers);
        check.text(call.text(), Integer.toString(answer), take(call));
        return this;
    }

    /** The calls with each of the numbers 0, 1, .. as the last one must answer these. */
    Run dueEach(int[] answers, String name, int... before) {
        for (int last = 0; last < answers.length; last++) {
            due(answers[last], name, with(Arrays.copyOf(before, before.length + 1), before.length, last));
        }
        return this;
    }

    /** Makes a call as often as told, whatever it answers, if it is no exception. */
    Run times(int often, String name, int... numbers) {
        Call call = new Call(name, numbers);
        for (int i = 0; i < often; i++) {
            String answer = take(call);
            check.no(call.text() + " throws " + answer, answer.endsWith("Exception"));
        }
        return this;
    }

    Run make(String name, int... numbers) {
        return times(1, name, numbers);
    }

    /** The call must throw exactly this exception, and change nothing. */
    Run refused(String exception, String name, int... numbers) {
        Call call = new Call(name, numbers);
        check.text(call.text(), exception, ask(call));
        if (known == null) {
            known = whatFollows(null);
        }
        check.text("what follows " + call.text(), known, whatFollows(call));
        return this;
    }

    /** A number that names nothing is refused. */
    Run noPlace(String name, int... numbers) {
        return refused(Check.NO_PLACE, name, numbers);
    }

    Run bad(String name, int... numbers) {
        return refused(Check.BAD, name, numbers);
    }

    Run state(String name, int... numbers) {
        return refused(Check.STATE, name, numbers);
    }

    /** A call of a member with a message must be refused, for each of these messages, as none is in its hand. */
    Run refusedByHand(String name, int group, int member, int... messages) {
        for (int message : messages) {
            state(name, group, member, message);
        }
        return this;
    }

    /** The numbers next to a range, and the farthest ones, must be refused at a place among the numbers. */
    Run noneOutside(int least, int most, int at, String name, int... numbers) {
        return outside(Check.NO_PLACE, least, most, at, name, numbers);
    }

    Run badOutside(int least, int most, int at, String name, int... numbers) {
        return outside(Check.BAD, least, most, at, name, numbers);
    }

    private Run outside(String exception, int least, int most, int at, String name, int... numbers) {
        for (int wrong : new int[] {MIN, least - 1, most + 1, MAX}) {
            refused(exception, name, with(numbers, at, wrong));
        }
        return this;
    }

    private static int[] with(int[] numbers, int at, int number) {
        int[] changed = numbers.clone();
        changed[at] = number;
        return changed;
    }

    /** A new object on which the calls that were taken were made, and then the one that is refused, if any. */
    private Caller again(Call refused) {
        Caller replayed = new Caller(new MessageBroker());
        for (Call call : taken) {
            replayed.call(call.name, call.numbers);
        }
        if (refused != null) {
            replayed.call(refused.name, refused.numbers);
        }
        return replayed;
    }

    /** All that can be asked for then, and what the calls answer that lay open what cannot be asked for. */
    private String whatFollows(Call refused) {
        StringBuilder text = new StringBuilder();
        List<Call> questions = questions(again(null));
        int most = Math.max(1, MOST_CALLS - taken.size() - 1);
        for (int first = 0; first < questions.size(); first += most) {
            Caller asked = again(refused);
            for (int i = first; i < questions.size() && i < first + most; i++) {
                text.append(' ').append(asked.call(questions.get(i).name, questions.get(i).numbers));
            }
        }
        Caller probed = again(refused);
        for (Call probe : probes(again(null))) {
            text.append(' ').append(probed.call(probe.name, probe.numbers));
        }
        return text.append(' ').append(probed.call("digest")).toString();
    }

    private static int number(Caller from, String name, int... numbers) {
        return Integer.parseInt(from.call(name, numbers));
    }

    private static void addEach(List<Call> to, int count, String name, int... before) {
        for (int last = 0; last < count; last++) {
            to.add(call(name, with(Arrays.copyOf(before, before.length + 1), before.length, last)));
        }
    }

    private static List<Call> questions(Caller from) {
        List<Call> found = new ArrayList<>();
        found.add(call("digest"));
        addEach(found, 10, "count");
        for (int partition = 0; partition < number(from, "count", 1); partition++) {
            for (int replica = 0; replica < 3; replica++) {
                addEach(found, 3, "replica", partition, replica);
            }
        }
        for (int group = 0; group < number(from, "count", 3); group++) {
            addQuestions(found, from, group);
        }
        return found;
    }

    private static void addQuestions(List<Call> to, Caller from, int group) {
        addEach(to, 6, "ofGroup", group);
        for (int member = 0; member < 12; member++) {
            if ((number(from, "ofGroup", group, 1) >> member & 1) == 1) {
                addEach(to, 5, "member", group, member);
                for (int place = 0; place < number(from, "member", group, member, 3); place++) {
                    addEach(to, 3, "hand", group, member, place);
                }
            }
        }
        for (int place = 0; place < number(from, "ofGroup", group, 3); place++) {
            addEach(to, 3, "waits", group, place);
        }
        addEach(to, number(from, "ofGroup", group, 4), "dead", group);
        addEach(to, number(from, "count", 4), "seen", group);
    }

    /**
     * Calls that lay open what no question tells: attached places, what was sent, quotas, ages and sizes, the speed,
     * and from where members read on. What one of them alters must not hide what a later one is to tell.
     */
    private static List<Call> probes(Caller from) {
        List<Call> found = new ArrayList<>();
        for (int producer = 0; producer < number(from, "count", 2); producer++) {
            for (String name : new String[] {"commit", "abort", "begin", "commit"}) {
                found.add(call(name, producer));
            }
            found.add(call("digest"));
            found.add(call("sendSome", producer, 0, 12, 7));
            found.add(call("sendSome", producer, 0, 12, 8));
            found.add(call("quota", producer, 20));
        }
        for (int group = 0; group < number(from, "count", 3); group++) {
            for (int member = 0; member < 12; member++) {
                if ((number(from, "ofGroup", group, 1) >> member & 1) == 1) {
                    for (String name : new String[] {"read", "commitOffsets", "beat", "read"}) {
                        found.add(call(name, group, member));
                    }
                }
            }
        }
        found.add(call("tick", 3));
        found.add(call("digest"));
        for (int topic = 0; topic < number(from, "count", 0); topic++) {
            found.add(call("retain", topic, 1, 1));
        }
        found.add(call("speed", 3));
        return found;
    }

    private static Call call(String name, int... numbers) {
        return new Call(name, numbers);
    }
}
