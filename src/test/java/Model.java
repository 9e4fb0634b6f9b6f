import java.util.ArrayList;
import java.util.Comparator;
import java.util.List;
import java.util.TreeMap;
import java.util.TreeSet;

/**
 * The document once more, word by word and with no thought of cost, to hold MessageBroker against: what the
 * class remembers is looked up here anew, and what it does at once is put off here where the document puts it off.
 */
final class Model {
    static final int NONE = -1, WAITING = 0, STORED = 1, CUT = 2, REMOVED = 3;
    static final int PLAIN = 0, OPEN = 1, COMMITTED = 2, ABORTED = 3;

    static final class Topic {
        int number, first, partitions, replicas, age = 999, size = 60;
        boolean isCompacted;
    }

    static final class Partition {
        int number, leader = 0, first = 0;
        Topic topic;
        int[] broker, end, lowered, caught;
        TreeSet<Integer> inSync = new TreeSet<>();
    }

    static final class Message {
        int number, producer, partition, key, value, state, of, offset = NONE, tick = NONE, due = NONE, deal = NONE;
    }

    static final class Producer {
        int quota = 10, sent = 0, deal = NONE, group, member, generation;
        boolean isBroken;
        TreeMap<Integer, Integer> places = new TreeMap<>();
    }

    static final class Held {
        int message, attempts, due;
        boolean isFromRow;
    }

    static final class Member {
        int number, beat, credits = 3, latest = NONE;
        List<Held> hand = new ArrayList<>();
        TreeMap<Integer, Integer> readOn = new TreeMap<>();
    }

    static final class Group {
        int joined = 0, generation = 0, moved = 0;
        TreeMap<Integer, Member> members = new TreeMap<>();
        TreeMap<Integer, Integer> owner = new TreeMap<>(), target = new TreeMap<>(), committed = new TreeMap<>();
        TreeSet<Integer> partitions = new TreeSet<>();
        List<Held> waiting = new ArrayList<>();
        List<Integer> dead = new ArrayList<>();
        int[] seen = new int[150];
    }

    final List<Topic> topics = new ArrayList<>();
    final List<Partition> partitions = new ArrayList<>();
    final List<Producer> producers = new ArrayList<>();
    final List<Group> groups = new ArrayList<>();
    final List<Message> messages = new ArrayList<>();
    final TreeSet<Integer> live = new TreeSet<>(List.of(0, 1, 2));
    int now = 0, speed = 2, begun = 0;

    private static void place(boolean isThere) {
        if (!isThere) {
            throw new IndexOutOfBoundsException();
        }
    }

    private static void fits(boolean isFit) {
        if (!isFit) {
            throw new IllegalArgumentException();
        }
    }

    private static void allows(boolean isAllowed) {
        if (!isAllowed) {
            throw new IllegalStateException();
        }
    }

    private static <T> T get(List<T> list, int number) {
        place(number >= 0 && number < list.size());
        return list.get(number);
    }

    private Member get(int group, int member) {
        Group g = get(groups, group);
        place(g.members.containsKey(member));
        return g.members.get(member);
    }

    // ---- topics, brokers

    int topic(int partitionCount, int replicas, boolean isCompacted) {
        fits(partitionCount >= 1 && partitionCount <= 3 && replicas >= 1 && replicas <= 3);
        allows(topics.size() < 3 && live.size() == 3);
        Topic topic = new Topic();
        topic.number = topics.size();
        topic.first = partitions.size();
        topic.partitions = partitionCount;
        topic.replicas = replicas;
        topic.isCompacted = isCompacted;
        topics.add(topic);
        for (int own = 0; own < partitionCount; own++) {
            Partition p = new Partition();
            p.number = partitions.size();
            p.topic = topic;
            p.broker = new int[replicas];
            p.end = new int[replicas];
            p.lowered = new int[replicas];
            p.caught = new int[replicas];
            for (int r = 0; r < replicas; r++) {
                p.broker[r] = (topic.number + own + r) % 3;
                p.lowered[r] = Integer.MAX_VALUE;
                p.caught[r] = now;
                p.inSync.add(r);
            }
            partitions.add(p);
        }
        return topic.number;
    }

    int retain(int topic, int age, int size) {
        Topic t = get(topics, topic);
        fits(age >= 0 && age <= 999 && size >= 1 && size <= 60);
        allows(!t.isCompacted);
        int before = t.age;
        t.age = age;
        t.size = size;
        return before;
    }

    int compact(int partition) {
        Partition p = get(partitions, partition);
        allows(p.topic.isCompacted);
        List<Message> away = new ArrayList<>();
        for (Message m : log(p)) {
            if (m.state == STORED && m.offset < stable(p)) {
                boolean isLast = true;
                for (Message later : log(p)) {
                    isLast &= !(canRead(later) && later.key == m.key && later.offset > m.offset);
                }
                boolean isOldAndNone = m.value == NONE && m.tick < now - 20;
                if (m.of == ABORTED || canRead(m) && (!isLast || isOldAndNone)) {
                    away.add(m);
                }
            }
        }
        for (Message m : away) {
            m.state = REMOVED;
        }
        return away.size();
    }

    /** STORED and REMOVED messages by offsets. */
    List<Message> log(Partition p) {
        List<Message> found = new ArrayList<>();
        for (Message m : messages) {
            if (m.partition == p.number && m.offset != NONE) {
                found.add(m);
            }
        }
        found.sort(Comparator.comparingInt((Message m) -> m.offset));
        return found;
    }

    int watermark(Partition p) {
        int least = Integer.MAX_VALUE;
        for (int r : p.inSync) {
            least = Math.min(least, p.end[r]);
        }
        return least;
    }

    int stable(Partition p) {
        int least = watermark(p);
        for (Message m : messages) {
            if (m.partition == p.number && m.of == OPEN && m.offset != NONE) {
                least = Math.min(least, m.offset);
            }
        }
        return least;
    }

    boolean canRead(Message m) {
        return m.state == STORED && m.offset < stable(partitions.get(m.partition))
                && (m.of == PLAIN || m.of == COMMITTED);
    }

    int fail(int broker) {
        place(broker >= 0 && broker <= 2);
        allows(live.remove(broker));
        int cut = 0;
        for (Partition p : partitions) {
            for (int r = 0; r < p.broker.length; r++) {
                if (p.broker[r] == broker) {
                    cut += failReplica(p, r);
                }
            }
        }
        return cut;
    }

    private int failReplica(Partition p, int r) {
        if (r != p.leader) {
            if (p.leader != NONE) {
                p.inSync.remove(r);
            }
            return 0;
        }
        if (p.inSync.size() == 1) {
            p.leader = NONE;
            return 0;
        }
        p.inSync.remove(r);
        p.leader = p.inSync.first();
        int end = p.end[p.leader];
        int cut = 0;
        for (Message m : log(p)) {
            if (m.offset >= end) {
                m.state = CUT;
                m.offset = NONE;
                cut++;
                if (m.of == OPEN) {
                    for (Producer producer : producers) {
                        if (producer.deal == m.deal) {
                            producer.isBroken = true;
                        }
                    }
                    settle(m.deal, ABORTED);
                }
            }
        }
        for (int other = 0; other < p.end.length; other++) {
            if (live.contains(p.broker[other])) {
                p.end[other] = Math.min(p.end[other], end);
            } else {
                p.lowered[other] = Math.min(p.lowered[other], end);
            }
        }
        return cut;
    }

    int restore(int broker) {
        place(broker >= 0 && broker <= 2);
        allows(live.add(broker));
        int led = 0;
        for (Partition p : partitions) {
            for (int r = 0; r < p.broker.length; r++) {
                if (p.broker[r] == broker) {
                    p.end[r] = Math.min(p.end[r], p.lowered[r]);
                    p.lowered[r] = Integer.MAX_VALUE;
                    if (p.leader == NONE && p.inSync.contains(r)) {
                        p.leader = r;
                        led++;
                    }
                }
            }
        }
        return led;
    }

    int fetch(int broker) {
        place(broker >= 0 && broker <= 2);
        allows(live.contains(broker));
        int more = 0;
        for (Partition p : partitions) {
            for (int r = 0; r < p.broker.length; r++) {
                if (p.broker[r] == broker && p.leader != NONE && p.leader != r) {
                    more += p.end[p.leader] - p.end[r];
                    p.end[r] = p.end[p.leader];
                    p.caught[r] = now;
                    p.inSync.add(r);
                }
            }
        }
        return more;
    }

    int speed(int messageCount) {
        fits(messageCount >= 0 && messageCount <= 9);
        int before = speed;
        speed = messageCount;
        return before;
    }

    int tick(int ticks) {
        fits(ticks >= 1 && ticks <= 30);
        for (int i = 0; i < ticks; i++) {
            now++;
            tickDelayed();
            tickReplicas();
            tickRetention();
            for (Group g : groups) {
                for (Member m : new ArrayList<>(g.members.values())) {
                    if (m.beat < now - 10) {
                        remove(g, m);
                    }
                }
            }
            for (Producer p : producers) {
                p.sent = 0;
            }
        }
        return now;
    }

    private void tickDelayed() {
        List<Message> due = new ArrayList<>();
        for (Message m : messages) {
            if (m.state == WAITING && m.due <= now) {
                due.add(m);
            }
        }
        due.sort(Comparator.comparingInt((Message m) -> m.due).thenComparingInt(m -> m.number));
        for (Message m : due) {
            if (takes(m.producer, partitions.get(m.partition))) {
                append(m);
            }
        }
    }

    private boolean takes(int producer, Partition p) {
        return p.leader != NONE && p.end[p.leader] < 60 && cutOf(producer, p).isEmpty();
    }

    private List<Message> cutOf(int producer, Partition p) {
        List<Message> found = new ArrayList<>();
        for (Message m : messages) {
            if (m.producer == producer && m.partition == p.number && m.of == PLAIN && m.state == CUT) {
                found.add(m);
            }
        }
        return found;
    }

    private void append(Message m) {
        Partition p = partitions.get(m.partition);
        m.state = STORED;
        m.tick = now;
        m.offset = p.end[p.leader]++;
    }

    private void tickReplicas() {
        for (Partition p : partitions) {
            for (int r = 0; r < p.end.length; r++) {
                if (p.leader != NONE && r != p.leader && live.contains(p.broker[r])) {
                    p.end[r] = Math.min(p.end[r] + speed, p.end[p.leader]);
                }
            }
        }
        for (Partition p : partitions) {
            for (int r = 0; r < p.end.length; r++) {
                if (p.leader != NONE && r != p.leader && live.contains(p.broker[r])) {
                    if (p.end[r] == p.end[p.leader]) {
                        p.caught[r] = now;
                        p.inSync.add(r);
                    } else if (p.caught[r] < now - 3) {
                        p.inSync.remove(r);
                    }
                }
            }
        }
    }

    private void tickRetention() {
        for (Partition p : partitions) {
            boolean goesOn = !p.topic.isCompacted;
            while (goesOn) {
                List<Message> stored = stored(p);
                goesOn = !stored.isEmpty() && stored.get(0).offset < stable(p)
                        && (stored.size() > p.topic.size || stored.get(0).tick < now - p.topic.age);
                if (goesOn) {
                    stored.get(0).state = REMOVED;
                    p.first = stored.get(0).offset + 1;
                }
            }
        }
    }

    private List<Message> stored(Partition p) {
        List<Message> found = log(p);
        found.removeIf(m -> m.state != STORED);
        return found;
    }

    // ---- producers

    int producer() {
        allows(producers.size() < 4);
        producers.add(new Producer());
        return producers.size() - 1;
    }

    int quota(int producer, int messageCount) {
        Producer p = get(producers, producer);
        fits(messageCount >= 0 && messageCount <= 20);
        int before = p.quota;
        p.quota = messageCount;
        return before;
    }

    private Partition partitionFor(int topic, int key) {
        Topic t = topics.get(topic);
        return partitions.get(t.first + Math.floorMod(key, t.partitions));
    }

    private Message make(int producer, int topic, int key, int value) {
        Message m = new Message();
        m.number = messages.size();
        m.producer = producer;
        m.partition = partitionFor(topic, key).number;
        m.key = key;
        m.value = value;
        messages.add(m);
        return m;
    }

    int send(int producer, int topic, int key, int value) {
        Producer p = get(producers, producer);
        get(topics, topic);
        fits(value >= -1 && value <= 999);
        allows(p.sent < p.quota && !p.isBroken && messages.size() < 150);
        allows(takes(producer, partitionFor(topic, key)));
        Message m = make(producer, topic, key, value);
        m.of = p.deal == NONE ? PLAIN : OPEN;
        m.deal = p.deal;
        append(m);
        p.sent++;
        return m.number;
    }

    int sendSome(int producer, int topic, int messageCount, int seed) {
        get(producers, producer);
        get(topics, topic);
        fits(messageCount >= 1 && messageCount <= 12);
        int x = seed;
        int sent = 0;
        try {
            while (sent < messageCount) {
                x = x * 1103515245 + 12345;
                int key = (x >>> 16) % 5;
                x = x * 1103515245 + 12345;
                send(producer, topic, key, (x >>> 16) % 100);
                sent++;
            }
        } catch (IllegalStateException refused) {
            return sent;
        }
        return sent;
    }

    int sendLater(int producer, int topic, int key, int value, int ticks) {
        get(producers, producer);
        get(topics, topic);
        fits(value >= -1 && value <= 999 && ticks >= 1 && ticks <= 50);
        allows(messages.size() < 150);
        Message m = make(producer, topic, key, value);
        m.due = now + ticks;
        return m.number;
    }

    int resend(int producer, int partition) {
        get(producers, producer);
        Partition p = get(partitions, partition);
        List<Message> cut = cutOf(producer, p);
        allows(p.leader != NONE && p.end[p.leader] + cut.size() <= 60);
        for (Message m : cut) {
            append(m);
        }
        return cut.size();
    }

    int begin(int producer) {
        Producer p = get(producers, producer);
        allows(p.deal == NONE);
        p.deal = begun++;
        return p.deal;
    }

    int attach(int producer, int group, int member) {
        Producer p = get(producers, producer);
        Group g = get(groups, group);
        Member m = get(group, member);
        allows(p.deal != NONE && !p.isBroken);
        p.places.clear();
        p.group = group;
        p.member = member;
        p.generation = g.generation;
        for (int partition : g.partitions) {
            if (g.owner.get(partition) == member) {
                p.places.put(partition, place(m, partition));
            }
        }
        return p.places.size();
    }

    private int place(Member m, int partition) {
        int least = Integer.MAX_VALUE;
        for (Held held : m.hand) {
            if (messages.get(held.message).partition == partition && !held.isFromRow) {
                least = Math.min(least, messages.get(held.message).offset);
            }
        }
        return least < Integer.MAX_VALUE ? least : m.readOn.get(partition);
    }

    int commit(int producer) {
        Producer p = get(producers, producer);
        allows(p.deal != NONE && !p.isBroken);
        for (Message m : messages) {
            allows(m.deal != p.deal || m.offset < watermark(partitions.get(m.partition)));
        }
        if (!p.places.isEmpty()) {
            Group g = groups.get(p.group);
            allows(g.generation == p.generation);
            for (int partition : p.places.keySet()) {
                allows(g.owner.get(partition) == p.member);
            }
            for (int partition : p.places.keySet()) {
                g.committed.merge(partition, p.places.get(partition), Math::max);
            }
        }
        return end(p, COMMITTED);
    }

    int abort(int producer) {
        Producer p = get(producers, producer);
        allows(p.deal != NONE);
        return end(p, ABORTED);
    }

    private int end(Producer p, int of) {
        int count = settle(p.deal, of);
        p.deal = NONE;
        p.isBroken = false;
        p.places.clear();
        return count;
    }

    private int settle(int deal, int of) {
        int count = 0;
        for (Message m : messages) {
            if (m.deal == deal) {
                m.of = of;
                count++;
            }
        }
        return count;
    }

    // ---- groups

    int group(int bits) {
        fits(bits > 0 && bits >> topics.size() == 0);
        allows(groups.size() < 3);
        Group g = new Group();
        for (Partition p : partitions) {
            if ((bits >> p.topic.number & 1) == 1) {
                g.partitions.add(p.number);
                g.owner.put(p.number, NONE);
                g.target.put(p.number, NONE);
                g.committed.put(p.number, 0);
            }
        }
        groups.add(g);
        return groups.size() - 1;
    }

    int join(int group) {
        Group g = get(groups, group);
        allows(g.members.size() < 4 && g.joined < 12);
        Member m = new Member();
        m.number = g.joined++;
        m.beat = now;
        g.members.put(m.number, m);
        deal(g);
        return m.number;
    }

    int leave(int group, int member) {
        Member m = get(group, member);
        return remove(groups.get(group), m);
    }

    private int remove(Group g, Member m) {
        int given = 0;
        for (int p : g.partitions) {
            if (g.owner.get(p) == m.number) {
                giveUp(g, m, p);
                given++;
            }
        }
        g.members.remove(m.number);
        deal(g);
        return given;
    }

    private void giveUp(Group g, Member m, int partition) {
        g.owner.put(partition, NONE);
        m.readOn.remove(partition);
        for (Held held : new ArrayList<>(m.hand)) {
            if (messages.get(held.message).partition == partition) {
                m.hand.remove(held);
                if (held.isFromRow) {
                    held.due = now;
                    g.waiting.add(held);
                }
            }
        }
    }

    private static int targets(Group g, int member) {
        int count = 0;
        for (int p : g.partitions) {
            count += g.target.get(p) == member ? 1 : 0;
        }
        return count;
    }

    private void deal(Group g) {
        g.generation++;
        TreeMap<Integer, Integer> before = new TreeMap<>(g.target);
        List<Integer> ranked = new ArrayList<>(g.members.keySet());
        ranked.sort(Comparator.comparingInt((Integer m) -> -targets(g, m)).thenComparingInt(m -> m));
        TreeMap<Integer, Integer> share = new TreeMap<>();
        for (int i = 0; i < ranked.size(); i++) {
            int more = i < g.partitions.size() % ranked.size() ? 1 : 0;
            share.put(ranked.get(i), g.partitions.size() / ranked.size() + more);
        }
        TreeMap<Integer, Integer> has = new TreeMap<>();
        for (int p : g.partitions) {
            int old = before.get(p);
            int kept = has.getOrDefault(old, 0);
            boolean isKept = share.containsKey(old) && kept < share.get(old);
            g.target.put(p, isKept ? old : NONE);
            has.put(old, kept + (isKept ? 1 : 0));
        }
        for (int p : g.partitions) {
            for (int m : g.members.keySet()) {
                if (g.target.get(p) == NONE && targets(g, m) < share.get(m)) {
                    g.target.put(p, m);
                }
            }
        }
        g.moved = 0;
        for (int p : g.partitions) {
            int old = before.get(p);
            g.moved += g.members.containsKey(old) && g.target.get(p) != old ? 1 : 0;
        }
    }

    int beat(int group, int member) {
        Member m = get(group, member);
        Group g = groups.get(group);
        m.beat = now;
        for (int p : g.partitions) {
            if (g.owner.get(p) == member && g.target.get(p) != member) {
                giveUp(g, m, p);
            }
        }
        for (int p : g.partitions) {
            if (g.target.get(p) == member && g.owner.get(p) == NONE) {
                g.owner.put(p, member);
                m.readOn.put(p, Math.max(g.committed.get(p), partitions.get(p).first));
            }
        }
        return m.readOn.size();
    }

    int credits(int group, int member, int messageCount) {
        Member m = get(group, member);
        fits(messageCount >= 1 && messageCount <= 9);
        allows(m.hand.size() <= messageCount);
        int before = m.credits;
        m.credits = messageCount;
        return before;
    }

    int read(int group, int member) {
        Member m = get(group, member);
        Group g = groups.get(group);
        if (m.hand.size() >= m.credits) {
            return NONE;
        }
        Held due = firstDue(g, m);
        if (due != null) {
            g.waiting.remove(due);
            due.isFromRow = true;
            return deliver(g, m, due);
        }
        List<Integer> order = new ArrayList<>(g.partitions.tailSet(m.latest, false));
        order.addAll(g.partitions.headSet(m.latest, true));
        for (int p : order) {
            Held next = g.owner.get(p) == member && partitions.get(p).leader != NONE ? nextOf(g, m, p) : null;
            if (next != null) {
                m.latest = p;
                return deliver(g, m, next);
            }
        }
        return NONE;
    }

    private int deliver(Group g, Member m, Held held) {
        m.hand.add(held);
        g.seen[held.message]++;
        return held.message;
    }

    private boolean isSameRow(int one, int other) {
        Message a = messages.get(one);
        Message b = messages.get(other);
        return a.partition == b.partition && a.key == b.key;
    }

    private Held firstDue(Group g, Member m) {
        Held best = null;
        for (Held held : sorted(g)) {
            boolean isFirst = true;
            for (Held other : g.waiting) {
                isFirst &= !(isSameRow(held.message, other.message)
                        && messages.get(other.message).offset < messages.get(held.message).offset);
            }
            boolean isOwned = g.owner.get(messages.get(held.message).partition) == m.number;
            if (best == null && isFirst && isOwned && held.due <= now) {
                best = held;
            }
        }
        return best;
    }

    private static List<Held> sorted(Group g) {
        List<Held> sorted = new ArrayList<>(g.waiting);
        sorted.sort(Comparator.comparingInt((Held h) -> h.due).thenComparingInt(h -> h.message));
        return sorted;
    }

    private Held nextOf(Group g, Member m, int p) {
        for (Message next : log(partitions.get(p))) {
            if (canRead(next) && next.offset >= m.readOn.get(p)) {
                m.readOn.put(p, next.offset + 1);
                boolean isKnown = g.dead.contains(next.number);
                boolean isRowEmpty = true;
                for (Held held : m.hand) {
                    isKnown |= held.message == next.number;
                }
                for (Held held : g.waiting) {
                    isKnown |= held.message == next.number;
                    isRowEmpty &= !isSameRow(held.message, next.number);
                }
                Held made = new Held();
                made.message = next.number;
                made.due = now;
                if (!isKnown && isRowEmpty) {
                    return made;
                }
                if (!isKnown) {
                    g.waiting.add(made);
                }
            }
        }
        return null;
    }

    private static Held inHand(Member m, int message) {
        Held found = null;
        for (Held held : m.hand) {
            found = held.message == message ? held : found;
        }
        allows(found != null);
        return found;
    }

    int done(int group, int member, int message) {
        Member m = get(group, member);
        m.hand.remove(inHand(m, message));
        return m.hand.size();
    }

    int retry(int group, int member, int message) {
        Member m = get(group, member);
        Group g = groups.get(group);
        Held failed = inHand(m, message);
        boolean isBehind = false;
        for (Held held : new ArrayList<>(m.hand)) {
            if (isBehind && isSameRow(held.message, message)) {
                m.hand.remove(held);
                held.due = now;
                g.waiting.add(held);
            }
            isBehind |= held == failed;
        }
        m.hand.remove(failed);
        failed.attempts++;
        if (failed.attempts == 3) {
            g.dead.add(message);
            return NONE;
        }
        failed.due = now + (failed.attempts == 1 ? 2 : 4);
        g.waiting.add(failed);
        return failed.due;
    }

    int commitOffsets(int group, int member) {
        Member m = get(group, member);
        Group g = groups.get(group);
        int changed = 0;
        for (int p : m.readOn.keySet()) {
            int before = g.committed.put(p, place(m, p));
            changed += before != g.committed.get(p) ? 1 : 0;
        }
        return changed;
    }

    private Group getShared(int group, int partition) {
        Group g = get(groups, group);
        place(g.partitions.contains(partition));
        return g;
    }

    int seek(int group, int partition, int offset) {
        Group g = getShared(group, partition);
        fits(offset >= 0 && offset <= 60);
        allows(g.owner.get(partition) == NONE);
        g.waiting.removeIf(held -> messages.get(held.message).partition == partition);
        g.dead.removeIf(message -> messages.get(message).partition == partition);
        return g.committed.put(partition, offset);
    }

    // ---- questions

    int message(int message, int what) {
        Message m = get(messages, message);
        fits(what >= 0 && what <= 8);
        int read = canRead(m) ? 1 : 0;
        return new int[] {m.state, m.of, m.producer, m.partition, m.offset, m.key, m.value, m.tick, read}[what];
    }

    int at(int partition, int offset) {
        Partition p = get(partitions, partition);
        place(offset >= 0);
        for (Message m : stored(p)) {
            if (m.offset == offset) {
                return m.number;
            }
        }
        return NONE;
    }

    int end(Partition p) {
        return p.end[p.leader != NONE ? p.leader : p.inSync.first()];
    }

    int partition(int partition, int what) {
        Partition p = get(partitions, partition);
        fits(what >= 0 && what <= 7);
        int bits = 0;
        for (int r : p.inSync) {
            bits += 1 << r;
        }
        return new int[] {p.topic.number, p.leader, bits, watermark(p), stable(p), p.first, end(p),
            stored(p).size()}[what];
    }

    int replica(int partition, int replica, int what) {
        Partition p = get(partitions, partition);
        place(replica >= 0 && replica < p.broker.length);
        fits(what >= 0 && what <= 2);
        int end = Math.min(p.end[replica], p.lowered[replica]);
        return new int[] {p.broker[replica], end, p.caught[replica]}[what];
    }

    int offsetAt(int partition, int tick) {
        Partition p = get(partitions, partition);
        for (Message m : stored(p)) {
            if (m.tick >= tick) {
                return m.offset;
            }
        }
        return end(p);
    }

    int value(int topic, int key) {
        get(topics, topic);
        int value = NONE;
        for (Message m : log(partitionFor(topic, key))) {
            value = canRead(m) && m.key == key ? m.value : value;
        }
        return value;
    }

    int sum(int topic, int key, int from, int to) {
        get(topics, topic);
        int sum = 0;
        for (Message m : log(partitionFor(topic, key))) {
            sum += canRead(m) && m.key == key && m.tick >= from && m.tick <= to ? Math.max(0, m.value) : 0;
        }
        return sum;
    }

    int share(int group, int partition, int what) {
        Group g = getShared(group, partition);
        fits(what >= 0 && what <= 6);
        int owner = g.owner.get(partition);
        int waits = 0;
        int lag = 0;
        TreeSet<Integer> aside = new TreeSet<>(g.dead);
        for (Held held : g.waiting) {
            waits += messages.get(held.message).partition == partition ? 1 : 0;
            aside.add(held.message);
        }
        for (Message m : log(partitions.get(partition))) {
            lag += canRead(m) && m.offset >= g.committed.get(partition) && !aside.contains(m.number) ? 1 : 0;
        }
        int dead = 0;
        for (int message : g.dead) {
            dead += messages.get(message).partition == partition ? 1 : 0;
        }
        int readOn = owner == NONE ? NONE : g.members.get(owner).readOn.get(partition);
        return new int[] {owner, g.target.get(partition), g.committed.get(partition), readOn, lag, waits, dead}[what];
    }

    int member(int group, int member, int what) {
        Member m = get(group, member);
        Group g = groups.get(group);
        fits(what >= 0 && what <= 4);
        return new int[] {m.readOn.size(), targets(g, member), m.credits, m.hand.size(), m.beat}[what];
    }

    int hand(int group, int member, int place, int what) {
        Held held = get(get(group, member).hand, place);
        fits(what >= 0 && what <= 2);
        return new int[] {held.message, held.attempts, held.isFromRow ? 1 : 0}[what];
    }

    int waits(int group, int place, int what) {
        Held held = get(sorted(get(groups, group)), place);
        fits(what >= 0 && what <= 2);
        return new int[] {held.message, held.due, held.attempts}[what];
    }

    int dead(int group, int place) {
        return get(get(groups, group).dead, place);
    }

    int seen(int group, int message) {
        Group g = get(groups, group);
        get(messages, message);
        return g.seen[message];
    }

    int count(int what) {
        fits(what >= 0 && what <= 9);
        int bits = 0;
        for (int broker : live) {
            bits += 1 << broker;
        }
        int going = 0;
        for (Producer p : producers) {
            going += p.deal == NONE ? 0 : 1;
        }
        int cut = 0;
        int waiting = 0;
        for (Message m : messages) {
            cut += m.state == CUT ? 1 : 0;
            waiting += m.state == WAITING ? 1 : 0;
        }
        return new int[] {topics.size(), partitions.size(), producers.size(), groups.size(), messages.size(), now,
            bits, going, cut, waiting}[what];
    }

    int ofGroup(int group, int what) {
        Group g = get(groups, group);
        fits(what >= 0 && what <= 5);
        int bits = 0;
        for (int m : g.members.keySet()) {
            bits += 1 << m;
        }
        int rests = !g.members.isEmpty() && g.owner.equals(g.target) ? 1 : 0;
        return new int[] {g.generation, bits, rests, g.waiting.size(), g.dead.size(), g.moved}[what];
    }

    int digest() {
        List<Integer> taken = new ArrayList<>();
        for (int m = 0; m < messages.size(); m++) {
            taken.addAll(List.of(message(m, 0), message(m, 1), message(m, 4), message(m, 7)));
        }
        for (int p = 0; p < partitions.size(); p++) {
            for (int what = 1; what <= 7; what++) {
                taken.add(partition(p, what));
            }
        }
        for (int g = 0; g < groups.size(); g++) {
            taken.addAll(List.of(ofGroup(g, 0), ofGroup(g, 1), ofGroup(g, 3), ofGroup(g, 4)));
            for (int p : groups.get(g).partitions) {
                for (int what = 0; what <= 4; what++) {
                    taken.add(share(g, p, what));
                }
            }
        }
        int number = 17;
        for (int each : taken) {
            number = number * 31 + each;
        }
        return number;
    }
}
