import java.util.ArrayList;
import java.util.Arrays;
import java.util.List;
import java.util.Random;

/**
 * Long runs of drawn calls on MessageBroker and on the Model side by side: each answer must be the same, all
 * questions must be answered alike now and then, and what the document says always holds must hold.
 */
public final class ModelTest {
    private static final int CALLS = 480;
    private static final String[] NAMES = {
        "topic", "retain", "compact", "fail", "restore", "fetch", "speed", "tick",
        "producer", "quota", "send", "sendSome", "sendLater", "resend", "begin", "attach", "commit", "abort",
        "group", "join", "leave", "beat", "credits", "read", "done", "retry", "commitOffsets", "seek",
        "beatAll", "wild",
    };
    private static final int[] WEIGHTS = {
        1, 2, 4, 2, 5, 4, 2, 14,
        2, 1, 24, 5, 4, 5, 6, 5, 8, 2,
        2, 4, 2, 5, 4, 36, 14, 26, 8, 5,
        6, 3,
    };

    private final Check check;
    private final Random random;
    private final MessageBroker broker = new MessageBroker();
    private final Model model = new Model();
    private final Caller real = new Caller(broker);
    private final Caller due = new Caller(model);
    private final int[] weights = new int[NAMES.length];
    private final StringBuilder calls = new StringBuilder();
    /** Partition and offset at which each message was read first. */
    private final int[][] readAt = new int[150][];
    private final int[] watermarks = new int[9];
    private boolean isSame = true;
    private int keys;
    /** In a steady run members beat ahead of ticks, and brokers that failed are soon restored. */
    private boolean isSteady;

    private ModelTest(Check check, int seed) {
        this.check = check;
        this.random = new Random(seed);
        check.about("run " + seed);
    }

    public static void main(String[] args) {
        int first = args.length > 0 ? Integer.parseInt(args[0]) : 0;
        int runs = args.length > 1 ? Integer.parseInt(args[1]) : 60;
        Check check = new Check();
        for (int seed = first; seed < first + runs; seed++) {
            new ModelTest(check, seed).run();
        }
        check.end();
    }

    private void run() {
        for (int i = 0; i < weights.length; i++) {
            weights[i] = random.nextInt(12) == 0 ? 0 : WEIGHTS[i] * (1 + random.nextInt(5));
        }
        keys = 1 + random.nextInt(6);
        isSteady = random.nextInt(3) > 0;
        begin();
        for (int i = 0; i < CALLS && isSame; i++) {
            drawCall();
            compare("digest");
            checkAlways();
            if (i % 24 == 23) {
                compareAll();
            }
        }
        compareAll();
        if (!isSame) {
            System.out.println(calls);
        }
    }

    /** Most runs begin with something to work on; a few have nothing at first. */
    private void begin() {
        if (random.nextInt(10) == 0) {
            return;
        }
        for (int topics = 1 + random.nextInt(3); topics > 0; topics--) {
            compare("topic", 1 + random.nextInt(3), 1 + random.nextInt(3), random.nextInt(2));
        }
        for (int producers = 1 + random.nextInt(3); producers > 0; producers--) {
            compare("producer");
        }
        compare("group", 1 + random.nextInt((1 << model.topics.size()) - 1));
        compare("join", 0);
    }

    private void drawCall() {
        int all = Arrays.stream(weights).sum();
        int drawn = random.nextInt(all);
        int which = 0;
        while (drawn >= weights[which]) {
            drawn -= weights[which];
            which++;
        }
        make(NAMES[which]);
    }

    private void make(String name) {
        switch (name) {
            case "topic": compare(name, from(1, 3), from(1, 3), random.nextInt(2)); break;
            case "retain": compare(name, topic(), few(20), from(1, 12)); break;
            case "compact": compact(partition()); break;
            case "fail": case "fetch": compare(name, random.nextInt(3)); break;
            case "restore": restore(); break;
            case "speed": compare(name, few(10)); break;
            case "tick": tick(); break;
            case "producer": compare(name); break;
            case "quota": compare(name, producer(), from(0, 20)); break;
            case "send": compare(name, producer(), topic(), key(), from(-1, 9)); break;
            case "sendSome": compare(name, producer(), topic(), from(1, 12), random.nextInt()); break;
            case "sendLater": compare(name, producer(), topic(), key(), from(-1, 9), from(1, 9)); break;
            case "resend": resend(); break;
            case "begin": compare(name, producer()); break;
            case "commit": case "abort": compare(name, beginner()); break;
            case "attach": withMember(name, beginner(), group()); break;
            case "group": compare(name, from(1, 7)); break;
            case "join": compare(name, group()); break;
            case "leave": case "beat": case "commitOffsets": withMember(name, group()); break;
            case "credits": credits(); break;
            case "read": for (int reads = from(1, 3); reads > 0; reads--) read(); break;
            case "done": case "retry": handed(name); break;
            case "seek": compare(name, group(), partition(), few(20)); break;
            case "beatAll": if (!model.groups.isEmpty()) beatAll(random.nextInt(model.groups.size())); break;
            default: wild(); break;
        }
    }

    private int from(int least, int most) {
        return least + random.nextInt(most - least + 1);
    }

    /** Below most, and mostly small. */
    private int few(int most) {
        return random.nextInt(1 + random.nextInt(most));
    }

    /** Mostly one that is there; now and then the one behind, or the one ahead of the first. */
    private int number(int count) {
        return random.nextInt(40) == 0 ? random.nextInt(2) * (count + 1) - 1 : count == 0 ? 0 : random.nextInt(count);
    }

    private int key() {
        return random.nextInt(keys) - 1;
    }

    private void restore() {
        for (int broker = 0; broker < 3 && isSteady; broker++) {
            if (!model.live.contains(broker)) {
                compare("restore", broker);
            }
        }
        compare("restore", random.nextInt(3));
    }

    private void tick() {
        for (int group = 0; group < model.groups.size() && isSteady; group++) {
            if (model.groups.get(group).members.isEmpty()) {
                compare("join", group);
            }
            beatAll(group);
        }
        compare("tick", random.nextInt(12) == 0 ? from(1, 30) : from(1, 3));
    }

    private int topic() {
        return number(model.topics.size());
    }

    private int partition() {
        return number(model.partitions.size());
    }

    private int producer() {
        return number(model.producers.size());
    }

    /** Mostly one with a transaction, if there is one. */
    private int beginner() {
        for (int producer = 0; producer < model.producers.size(); producer++) {
            if (model.producers.get(producer).deal != Model.NONE && random.nextInt(3) > 0) {
                return producer;
            }
        }
        return producer();
    }

    private int group() {
        return number(model.groups.size());
    }

    private int member(int group) {
        if (group < 0 || group >= model.groups.size() || random.nextInt(40) == 0) {
            return random.nextInt(14) - 1;
        }
        List<Integer> members = new ArrayList<>(model.groups.get(group).members.keySet());
        return members.isEmpty() ? 0 : members.get(random.nextInt(members.size()));
    }

    private void withMember(String name, int... before) {
        int[] numbers = Arrays.copyOf(before, before.length + 1);
        numbers[before.length] = member(before[before.length - 1]);
        compare(name, numbers);
    }

    private void credits() {
        int group = group();
        compare("credits", group, member(group), from(1, 9));
    }

    private void read() {
        int group = group();
        String answer = compare("read", group, member(group));
        if (Character.isDigit(answer.charAt(0))) {
            int message = Integer.parseInt(answer);
            if (readAt[message] == null) {
                readAt[message] = new int[] {broker.message(message, 3), broker.message(message, 4)};
            }
        }
    }

    /** Mostly what must be sent again, if there is something. */
    private void resend() {
        for (Model.Message message : model.messages) {
            if (message.state == Model.CUT && message.of == Model.PLAIN && random.nextInt(3) > 0) {
                compare("resend", message.producer, message.partition);
                return;
            }
        }
        compare("resend", producer(), partition());
    }

    private void handed(String name) {
        int group = group();
        int member = member(group);
        for (int i = 0; i < 4 && "0".equals(due.call("member", group, member, 3)); i++) {
            group = group();
            member = member(group);
        }
        int message = random.nextInt(152) - 1;
        boolean isThere = group >= 0 && group < model.groups.size()
                && model.groups.get(group).members.containsKey(member);
        if (isThere && random.nextInt(20) > 0) {
            List<Model.Held> hand = model.groups.get(group).members.get(member).hand;
            message = hand.isEmpty() ? message : hand.get(random.nextInt(hand.size())).message;
        }
        compare(name, group, member, message);
    }

    /** Compaction changes the value of no key. */
    private void compact(int partition) {
        boolean isThere = partition >= 0 && partition < model.partitions.size();
        int topic = isThere ? model.partitions.get(partition).topic.number : NO_TOPIC;
        int[] before = values(topic);
        compare("compact", partition);
        check.text("values after compact", Arrays.toString(before), Arrays.toString(values(topic)));
    }

    private static final int NO_TOPIC = -1;

    private int[] values(int topic) {
        int[] values = new int[8];
        for (int key = 0; key < values.length && topic != NO_TOPIC; key++) {
            values[key] = broker.value(topic, key - 1);
        }
        return values;
    }

    /** Behind two rounds of beats each partition has one owner, and the shares differ by at most one. */
    private void beatAll(int group) {
        List<Integer> members = new ArrayList<>(model.groups.get(group).members.keySet());
        for (int round = 0; round < 2; round++) {
            for (int member : members) {
                compare("beat", group, member);
            }
        }
        int least = 9;
        int most = 0;
        for (int member : members) {
            least = Math.min(least, broker.member(group, member, 0));
            most = Math.max(most, broker.member(group, member, 0));
        }
        check.same("at rest", members.isEmpty() ? 0 : 1, broker.ofGroup(group, 2));
        check.yes("shares differ by one at most", most - least <= 1);
    }

    /** A call with numbers of any kind. */
    private void wild() {
        int[] odd = {Integer.MIN_VALUE, -2, -1, 0, 1, 2, 3, 4, 9, 12, 60, 61, 150, 999, 1000, Integer.MAX_VALUE};
        String[] names = {"retain3", "compact1", "fail1", "restore1", "fetch1", "speed1", "tick1", "quota2", "send4",
            "sendSome4", "sendLater5", "resend2", "begin1", "attach3", "commit1", "abort1", "group1", "join1", "leave2",
            "beat2", "credits3", "read2", "done3", "retry3", "commitOffsets2", "seek3", "message2", "at2", "partition2",
            "replica3", "offsetAt2", "value2", "sum4", "share3", "member3", "hand4", "waits3", "dead2", "seen2",
            "count1", "ofGroup2", "topic3"};
        String drawn = names[random.nextInt(names.length)];
        int[] numbers = new int[drawn.charAt(drawn.length() - 1) - '0'];
        for (int i = 0; i < numbers.length; i++) {
            numbers[i] = odd[random.nextInt(odd.length)];
        }
        compare(drawn.substring(0, drawn.length() - 1), numbers);
    }

    private String compare(String name, int... numbers) {
        String call = name + Arrays.toString(numbers);
        String answered = real.call(name, numbers);
        String wanted = due.call(name, numbers);
        if (!name.equals("digest")) {
            calls.append(call).append(" -> ").append(wanted).append('\n');
        }
        isSame &= answered.equals(wanted);
        check.text(call, wanted, answered);
        return answered;
    }

    private void checkAlways() {
        isSame &= broker.audit(6);
        for (int part = 0; part <= 6; part++) {
            check.yes("audit " + part, broker.audit(part));
        }
        for (int p = 0; p < broker.count(1); p++) {
            check.yes("the high watermark stays or rises", broker.partition(p, 3) >= watermarks[p]);
            watermarks[p] = broker.partition(p, 3);
        }
        for (int message = 0; message < readAt.length; message++) {
            if (readAt[message] != null) {
                boolean isRemoved = broker.message(message, 0) == MessageBroker.REMOVED;
                check.same("what was read stays", readAt[message][1], broker.message(message, 4));
                check.yes("what was read stays",
                        isRemoved || broker.at(readAt[message][0], readAt[message][1]) == message);
            }
        }
    }

    private void compareAll() {
        int length = calls.length();
        ask("count", 9);
        for (int message = 0; message < model.messages.size(); message++) {
            ask("message", 8, message);
        }
        for (int p = 0; p < model.partitions.size(); p++) {
            ask("partition", 7, p);
            ask("at", 60, p);
            ask("offsetAt", 70, p);
            for (int r = 0; r <= 3; r++) {
                ask("replica", 2, p, r);
            }
        }
        for (int t = 0; t < model.topics.size(); t++) {
            ask("value", 6, t);
            compare("sum", t, 1, 2, 30);
            compare("sum", t, 2, 0, model.now);
        }
        for (int g = 0; g < model.groups.size(); g++) {
            askGroup(g);
        }
        calls.setLength(length);
    }

    private void askGroup(int group) {
        ask("ofGroup", 5, group);
        for (int p = 0; p <= model.partitions.size(); p++) {
            ask("share", 6, group, p);
        }
        for (int member = 0; member < 12; member++) {
            ask("member", 4, group, member);
            for (int place = 0; place < 10; place++) {
                ask("hand", 2, group, member, place);
            }
        }
        for (int place = 0; place <= model.groups.get(group).waiting.size(); place++) {
            ask("waits", 2, group, place);
        }
        ask("dead", model.groups.get(group).dead.size(), group);
        ask("seen", 150, group);
    }

    /** Asks with each last number from -1 to one above the greatest that is to be answered. */
    private void ask(String name, int most, int... before) {
        int[] numbers = Arrays.copyOf(before, before.length + 1);
        for (int what = -1; what <= most + 1; what++) {
            numbers[before.length] = what;
            compare(name, numbers);
        }
    }
}
