import java.util.Arrays;

/** A run of calls on a new object, each with the answer that is due. */
final class Run {
    final MessageBroker broker = new MessageBroker();
    private final Caller caller = new Caller(broker);
    private final Check check;

    Run(Check check, String about) {
        this.check = check;
        check.about(about);
    }

    /** The call must answer this; booleans count 1 or 0. */
    Run due(int answer, String name, int... numbers) {
        check.text(name + Arrays.toString(numbers), Integer.toString(answer), caller.call(name, numbers));
        return this;
    }

    /** Makes a call as often as told, whatever it answers, if it is no exception. */
    Run times(int often, String name, int... numbers) {
        for (int i = 0; i < often; i++) {
            String answer = caller.call(name, numbers);
            check.no(name + Arrays.toString(numbers) + " throws " + answer, answer.endsWith("Exception"));
        }
        return this;
    }

    Run make(String name, int... numbers) {
        return times(1, name, numbers);
    }

    /** The call must throw exactly this exception, and change nothing that can be asked for. */
    Run refused(String exception, String name, int... numbers) {
        String before = state();
        check.text(name + Arrays.toString(numbers), exception, caller.call(name, numbers));
        check.text("the state behind " + name + Arrays.toString(numbers), before, state());
        return this;
    }

    /** A number that no object is named by comes first: below 0, and the one behind the last. */
    Run noPlace(String name, int... numbers) {
        return refused(Check.NO_PLACE, name, numbers);
    }

    Run bad(String name, int... numbers) {
        return refused(Check.BAD, name, numbers);
    }

    Run state(String name, int... numbers) {
        return refused(Check.STATE, name, numbers);
    }

    private String state() {
        StringBuilder text = new StringBuilder();
        text.append(caller.call("digest"));
        for (int what = 0; what <= 9; what++) {
            add(text, "count", what);
        }
        for (int partition = 0; partition < broker.count(1); partition++) {
            for (int replica = 0; replica < 3; replica++) {
                add(text, "replica", partition, replica, 1);
                add(text, "replica", partition, replica, 2);
            }
        }
        for (int group = 0; group < broker.count(3); group++) {
            addGroup(text, group);
        }
        return text.toString();
    }

    private void addGroup(StringBuilder text, int group) {
        for (int member = 0; member < 12; member++) {
            for (int what = 0; what <= 4; what++) {
                add(text, "member", group, member, what);
            }
            for (int place = 0; place < 9; place++) {
                add(text, "hand", group, member, place, 0);
                add(text, "hand", group, member, place, 1);
            }
        }
        for (int place = 0; place < broker.ofGroup(group, 3); place++) {
            for (int what = 0; what <= 2; what++) {
                add(text, "waits", group, place, what);
            }
        }
        for (int place = 0; place < broker.ofGroup(group, 4); place++) {
            add(text, "dead", group, place);
        }
        for (int message = 0; message < broker.count(4); message++) {
            add(text, "seen", group, message);
        }
        add(text, "ofGroup", group, 5);
    }

    private void add(StringBuilder text, String name, int... numbers) {
        text.append(' ').append(caller.call(name, numbers));
    }
}
