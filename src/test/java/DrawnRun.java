import java.util.ArrayList;
import java.util.Arrays;
import java.util.List;
import java.util.Random;

/**
 * A long run of drawn calls, with what the Model answers to each, and at some moments to all questions. What the
 * document says always holds is looked for in the Model's answers.
 */
final class DrawnRun {
    /** A call may be drawn together with some more, so a run may become a little longer; see MOST_CALLS of ModelTest. */
    private static final int CALLS = 420;
    private static final int CALLS_BETWEEN_MOMENTS = 40;
    private static final int NO_TOPIC = -1;
    private static final String[] NAMES = {
        "topic", "retain", "compact", "fail", "restore", "fetch", "speed", "tick",
        "producer", "quota", "send", "sendSome", "sendLater", "resend", "begin", "attach", "commit", "abort",
        "group", "join", "leave", "beat", "credits", "read", "done", "retry", "commitOffsets", "seek",
        "beatAll", "wild",
    };
    private static final int[] WEIGHTS = {
        1, 2, 4, 2, 5, 4, 2, 14,
        2, 1, 24, 5, 4, 5, 6, 5, 8, 2,
        2, 4, 2, 5, 4, 36, 14, 26, 8, 5,
        6, 3,
    };

    /** A call and the answer that is due. */
    record Due(String name, int[] numbers, String answer) {
        @Override
        public String toString() {
            return name + Arrays.toString(numbers);
        }
    }

    /** What is to be answered to all questions behind so many calls. */
    record Moment(int calls, List<Due> questions) {
    }

    final List<Due> calls = new ArrayList<>();
    /** What digest() is to answer behind each of the calls. */
    final List<String> digests = new ArrayList<>();
    final List<Moment> moments = new ArrayList<>();

    private final Check check;
    private final Random random;
    private final Model model = new Model();
    private final Caller due = new Caller(model);
    private final int[] weights = new int[NAMES.length];
    /** Partition and offset at which each message was read first. */
    private final int[][] readAt = new int[150][];
    private final int[] watermarks = new int[9];
    private final int keys;
    /** In a steady run members beat ahead of ticks, and brokers that failed are soon restored. */
    private final boolean isSteady;

    DrawnRun(Check check, int seed) {
        this.check = check;
        this.random = new Random(seed);
        for (int i = 0; i < weights.length; i++) {
            weights[i] = random.nextInt(12) == 0 ? 0 : WEIGHTS[i] * (1 + random.nextInt(5));
        }
        keys = 1 + random.nextInt(6);
        isSteady = random.nextInt(3) > 0;
    }

    void draw() {
        begin();
        int next = CALLS_BETWEEN_MOMENTS;
        while (calls.size() < CALLS) {
            drawCall();
            checkAlways();
            if (calls.size() >= next || calls.size() >= CALLS) {
                moments.add(new Moment(calls.size(), new Questions(model, due).all()));
                next = calls.size() + CALLS_BETWEEN_MOMENTS;
            }
        }
    }

    /** Makes the call on the Model, and keeps it. */
    private String make(String name, int... numbers) {
        String answer = due.call(name, numbers);
        calls.add(new Due(name, numbers.clone(), answer));
        digests.add(due.call("digest"));
        return answer;
    }

    /** Most runs begin with something to work on; a few have nothing at first. */
    private void begin() {
        if (random.nextInt(10) == 0) {
            return;
        }
        for (int topics = 1 + random.nextInt(3); topics > 0; topics--) {
            make("topic", 1 + random.nextInt(3), 1 + random.nextInt(3), random.nextInt(2));
        }
        for (int producers = 1 + random.nextInt(3); producers > 0; producers--) {
            make("producer");
        }
        make("group", 1 + random.nextInt((1 << model.topics.size()) - 1));
        make("join", 0);
    }

    private void drawCall() {
        int drawn = random.nextInt(Arrays.stream(weights).sum());
        int which = 0;
        while (drawn >= weights[which]) {
            drawn -= weights[which];
            which++;
        }
        makeDrawn(NAMES[which]);
    }

    private void makeDrawn(String name) {
        switch (name) {
            case "topic": make(name, from(1, 3), from(1, 3), random.nextInt(2)); break;
            case "retain": make(name, topic(), few(20), from(1, 12)); break;
            case "compact": compact(partition()); break;
            case "fail": case "fetch": make(name, random.nextInt(3)); break;
            case "restore": restore(); break;
            case "speed": make(name, few(10)); break;
            case "tick": tick(); break;
            case "producer": make(name); break;
            case "quota": make(name, producer(), from(0, 20)); break;
            case "send": make(name, producer(), topic(), key(), from(-1, 9)); break;
            case "sendSome": make(name, producer(), topic(), from(1, 12), random.nextInt()); break;
            case "sendLater": make(name, producer(), topic(), key(), from(-1, 9), from(1, 9)); break;
            case "resend": resend(); break;
            case "begin": make(name, producer()); break;
            case "commit": case "abort": make(name, beginner()); break;
            case "attach": withMember(name, beginner(), group()); break;
            case "group": make(name, from(1, 7)); break;
            case "join": make(name, group()); break;
            case "leave": case "beat": case "commitOffsets": withMember(name, group()); break;
            case "credits": credits(); break;
            case "read": for (int reads = from(1, 3); reads > 0; reads--) read(); break;
            case "done": case "retry": handed(name); break;
            case "seek": make(name, group(), partition(), few(20)); break;
            case "beatAll": if (!model.groups.isEmpty()) beatAll(random.nextInt(model.groups.size())); break;
            default: wild(); break;
        }
    }

    private int from(int least, int most) {
        return least + random.nextInt(most - least + 1);
    }

    /** Below most, and mostly small. */
    private int few(int most) {
        return random.nextInt(1 + random.nextInt(most));
    }

    /** Mostly one that is there; now and then the one behind, or the one ahead of the first. */
    private int number(int count) {
        return random.nextInt(40) == 0 ? random.nextInt(2) * (count + 1) - 1 : count == 0 ? 0 : random.nextInt(count);
    }

    private int key() {
        return random.nextInt(keys) - 1;
    }

    private int topic() {
        return number(model.topics.size());
    }

    private int partition() {
        return number(model.partitions.size());
    }

    private int producer() {
        return number(model.producers.size());
    }

    /** Mostly one with a transaction, if there is one. */
    private int beginner() {
        for (int producer = 0; producer < model.producers.size(); producer++) {
            if (model.producers.get(producer).deal != Model.NONE && random.nextInt(3) > 0) {
                return producer;
            }
        }
        return producer();
    }

    private int group() {
        return number(model.groups.size());
    }

    private boolean isGroup(int group) {
        return group >= 0 && group < model.groups.size();
    }

    private int member(int group) {
        if (!isGroup(group) || random.nextInt(40) == 0) {
            return random.nextInt(14) - 1;
        }
        List<Integer> members = new ArrayList<>(model.groups.get(group).members.keySet());
        return members.isEmpty() ? 0 : members.get(random.nextInt(members.size()));
    }

    private void restore() {
        for (int broker = 0; broker < 3 && isSteady; broker++) {
            if (!model.live.contains(broker)) {
                make("restore", broker);
            }
        }
        make("restore", random.nextInt(3));
    }

    private void tick() {
        for (int group = 0; group < model.groups.size() && isSteady; group++) {
            if (model.groups.get(group).members.isEmpty()) {
                make("join", group);
            }
            beatAll(group);
        }
        make("tick", random.nextInt(12) == 0 ? from(1, 30) : from(1, 3));
    }

    private void withMember(String name, int... before) {
        int[] numbers = Arrays.copyOf(before, before.length + 1);
        numbers[before.length] = member(before[before.length - 1]);
        make(name, numbers);
    }

    private void credits() {
        int group = group();
        make("credits", group, member(group), from(1, 9));
    }

    private void read() {
        int group = group();
        String answer = make("read", group, member(group));
        if (Character.isDigit(answer.charAt(0))) {
            int message = Integer.parseInt(answer);
            if (readAt[message] == null) {
                readAt[message] = new int[] {model.message(message, 3), model.message(message, 4)};
            }
        }
    }

    /** Mostly what must be sent again, if there is something. */
    private void resend() {
        for (Model.Message message : model.messages) {
            if (message.state == Model.CUT && message.of == Model.PLAIN && random.nextInt(3) > 0) {
                make("resend", message.producer, message.partition);
                return;
            }
        }
        make("resend", producer(), partition());
    }

    private void handed(String name) {
        int group = group();
        int member = member(group);
        for (int i = 0; i < 4 && "0".equals(due.call("member", group, member, 3)); i++) {
            group = group();
            member = member(group);
        }
        int message = random.nextInt(152) - 1;
        if (isGroup(group) && model.groups.get(group).members.containsKey(member) && random.nextInt(20) > 0) {
            List<Model.Held> hand = model.groups.get(group).members.get(member).hand;
            message = hand.isEmpty() ? message : hand.get(random.nextInt(hand.size())).message;
        }
        make(name, group, member, message);
    }

    /** Compaction changes the value of no key. */
    private void compact(int partition) {
        boolean isThere = partition >= 0 && partition < model.partitions.size();
        int topic = isThere ? model.partitions.get(partition).topic.number : NO_TOPIC;
        int[] before = values(topic);
        make("compact", partition);
        check.text("values after compact", Arrays.toString(before), Arrays.toString(values(topic)));
    }

    private int[] values(int topic) {
        int[] values = new int[8];
        for (int key = 0; key < values.length && topic != NO_TOPIC; key++) {
            values[key] = model.value(topic, key - 1);
        }
        return values;
    }

    /** Behind two rounds of beats each partition has one owner, and the shares differ by at most one. */
    private void beatAll(int group) {
        List<Integer> members = new ArrayList<>(model.groups.get(group).members.keySet());
        for (int round = 0; round < 2; round++) {
            for (int member : members) {
                make("beat", group, member);
            }
        }
        int least = 9;
        int most = 0;
        for (int member : members) {
            least = Math.min(least, model.member(group, member, 0));
            most = Math.max(most, model.member(group, member, 0));
        }
        check.same("at rest", members.isEmpty() ? 0 : 1, model.ofGroup(group, 2));
        check.yes("shares differ by one at most", most - least <= 1);
    }

    /** A call with numbers of any kind. */
    private void wild() {
        int[] odd = {Integer.MIN_VALUE, -2, -1, 0, 1, 2, 3, 4, 9, 12, 60, 61, 150, 999, 1000, Integer.MAX_VALUE};
        String[] names = {"retain3", "compact1", "fail1", "restore1", "fetch1", "speed1", "tick1", "quota2", "send4",
            "sendSome4", "sendLater5", "resend2", "begin1", "attach3", "commit1", "abort1", "group1", "join1", "leave2",
            "beat2", "credits3", "read2", "done3", "retry3", "commitOffsets2", "seek3", "message2", "at2", "partition2",
            "replica3", "offsetAt2", "value2", "sum4", "share3", "member3", "hand4", "waits3", "dead2", "seen2",
            "count1", "ofGroup2", "topic3"};
        String drawn = names[random.nextInt(names.length)];
        int[] numbers = new int[drawn.charAt(drawn.length() - 1) - '0'];
        for (int i = 0; i < numbers.length; i++) {
            numbers[i] = odd[random.nextInt(odd.length)];
        }
        make(drawn.substring(0, drawn.length() - 1), numbers);
    }

    private void checkAlways() {
        for (int p = 0; p < model.partitions.size(); p++) {
            int watermark = model.partition(p, 3);
            check.yes("the high watermark stays or rises", watermark >= watermarks[p]);
            watermarks[p] = watermark;
        }
        for (int message = 0; message < readAt.length; message++) {
            if (readAt[message] != null) {
                boolean isRemoved = model.message(message, 0) == Model.REMOVED;
                check.same("what was read stays", readAt[message][1], model.message(message, 4));
                check.yes("what was read stays",
                        isRemoved || model.at(readAt[message][0], readAt[message][1]) == message);
            }
        }
    }
}
