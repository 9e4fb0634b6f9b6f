/**
 * A message broker: partitioned logs with replicas on three brokers, producers with transactions,
 * and groups of members that share the partitions and read them.
 */
public final class MessageBroker {
    public static final int NONE = -1;
    public static final int WAITING = 0, STORED = 1, CUT = 2, REMOVED = 3;
    public static final int PLAIN = 0, OPEN = 1, COMMITTED = 2, ABORTED = 3;

    private static final int BROKERS = 3;
    private static final int ALL_BROKERS = 7;
    private static final int MOST_TOPICS = 3;
    private static final int MOST_OWN_PARTITIONS = 3;
    private static final int MOST_PARTITIONS = 9;
    private static final int MOST_REPLICAS = 3;
    private static final int MOST_PRODUCERS = 4;
    private static final int MOST_GROUPS = 3;
    private static final int MOST_MEMBERS = 4;
    private static final int MOST_JOINS = 12;
    private static final int MOST_MESSAGES = 150;
    private static final int LOG_SIZE = 60;
    private static final int MOST_VALUE = 999;
    private static final int MOST_AGE = 999;
    private static final int MOST_SPEED = 9;
    private static final int MOST_TICKS = 30;
    private static final int MOST_QUOTA = 20;
    private static final int MOST_DRAWN = 12;
    private static final int MOST_DELAY = 50;
    private static final int MOST_CREDITS = 9;
    private static final int LAG_TICKS = 3;
    private static final int BEAT_TICKS = 10;
    private static final int VALUELESS_TICKS = 20;
    private static final int DEADLY_ATTEMPTS = 3;
    private static final int FIRST_DELAY = 2, SECOND_DELAY = 4;
    private static final int DRAW_FACTOR = 1103515245, DRAW_ADDEND = 12345;
    private static final int DRAWN_KEYS = 5, DRAWN_VALUES = 100;
    /** Where a message is for a group. */
    private static final int AWAY = 0, IN_ROW = 1, IN_HAND = 2, DEAD = 3;

    private final Topic[] topics = new Topic[MOST_TOPICS];
    private final Partition[] partitions = new Partition[MOST_PARTITIONS];
    private final Producer[] producers = new Producer[MOST_PRODUCERS];
    private final Group[] groups = new Group[MOST_GROUPS];
    private final Message[] messages = new Message[MOST_MESSAGES];
    /** The WAITING messages, by their due ticks, then their numbers. */
    private final Message[] delayed = new Message[MOST_MESSAGES];
    private int topicCount = 0;
    private int partitionCount = 0;
    private int producerCount = 0;
    private int groupCount = 0;
    private int messageCount = 0;
    private int delayedCount = 0;
    private int transactionsBegun = 0;
    private int liveBrokers = ALL_BROKERS;
    private int speed = 2;
    private int now = 0;

    public MessageBroker() {
    }

    // ======== topics, brokers

    public int topic(int partitions, int replicas, boolean isCompacted)
            throws IllegalArgumentException, IllegalStateException {
        requireWithin(partitions, 1, MOST_OWN_PARTITIONS);
        requireWithin(replicas, 1, MOST_REPLICAS);
        if (topicCount >= MOST_TOPICS || liveBrokers != ALL_BROKERS) {
            throw new IllegalStateException("no room for a topic, or a broker is not live");
        }
        Topic made = new Topic(topicCount, partitions, replicas, isCompacted);
        for (int own = 0; own < partitions; own++) {
            makePartition(made, own);
        }
        topics[topicCount] = made;
        topicCount++;
        return made.number;
    }

    private void makePartition(Topic topic, int own) {
        if (partitionCount >= MOST_PARTITIONS || own >= MOST_OWN_PARTITIONS) {
            return;
        }
        Partition made = new Partition(partitionCount, topic, own, now);
        topic.own[own] = made;
        partitions[partitionCount] = made;
        partitionCount++;
    }

    public int retain(int topic, int age, int size)
            throws IndexOutOfBoundsException, IllegalArgumentException, IllegalStateException {
        Topic kept = topicOf(topic);
        requireWithin(age, 0, MOST_AGE);
        requireWithin(size, 1, LOG_SIZE);
        if (kept.isCompacted) {
            throw new IllegalStateException("the topic is compacted");
        }
        int before = kept.age;
        kept.age = age;
        kept.size = size;
        return before;
    }

    public int compact(int partition) throws IndexOutOfBoundsException, IllegalStateException {
        Partition compacted = partitionOf(partition);
        if (!compacted.topic.isCompacted) {
            throw new IllegalStateException("the topic is not compacted");
        }
        int stable = compacted.stableOffset();
        int removed = 0;
        for (int offset = 0; offset < stable; offset++) {
            Message message = compacted.storedAt(offset);
            if (message != null && isCompactedAway(message, stable)) {
                message.place = REMOVED;
                removed++;
            }
        }
        return removed;
    }

    /** The last message of a key is told rightly as offsets are compacted rising: it is STORED until its own turn. */
    private boolean isCompactedAway(Message message, int stable) {
        if (message.kind == ABORTED) {
            return true;
        }
        if (message.partition.lastReadable(message.key, stable) != message) {
            return true;
        }
        return message.value == NONE && now - message.tick > VALUELESS_TICKS;
    }

    public int fail(int broker) throws IndexOutOfBoundsException, IllegalStateException {
        requireBroker(broker);
        if (!isLive(broker)) {
            throw new IllegalStateException("the broker is not live");
        }
        liveBrokers &= ~(1 << broker);
        int cut = 0;
        for (Partition partition : partitions) {
            if (partition != null) {
                cut += loseReplica(partition, partition.replicaOn(broker));
            }
        }
        return cut;
    }

    private int loseReplica(Partition partition, Replica lost) {
        if (lost == null || partition.leader == null) {
            return 0;
        }
        if (lost != partition.leader) {
            lost.isInSync = false;
            return 0;
        }
        partition.leader = partition.firstInSyncBut(lost);
        if (partition.leader == null) {
            return 0;
        }
        lost.isInSync = false;
        int cut = cutFrom(partition, partition.leader.end);
        partition.lowerEnds();
        return cut;
    }

    private int cutFrom(Partition partition, int end) {
        int cut = 0;
        for (int offset = end; offset < LOG_SIZE; offset++) {
            Message message = partition.takeAt(offset);
            if (message != null) {
                message.place = CUT;
                message.offset = NONE;
                cut++;
                if (message.kind == OPEN) {
                    message.producer.isBroken = true;
                    settle(message.transaction, ABORTED);
                }
            }
        }
        return cut;
    }

    public int restore(int broker) throws IndexOutOfBoundsException, IllegalStateException {
        requireBroker(broker);
        if (isLive(broker)) {
            throw new IllegalStateException("the broker is live");
        }
        liveBrokers |= 1 << broker;
        int led = 0;
        for (Partition partition : partitions) {
            Replica back = partition == null ? null : partition.replicaOn(broker);
            if (back != null && partition.leader == null && back.isInSync) {
                partition.leader = back;
                led++;
            }
        }
        return led;
    }

    public int fetch(int broker) throws IndexOutOfBoundsException, IllegalStateException {
        requireBroker(broker);
        if (!isLive(broker)) {
            throw new IllegalStateException("the broker is not live");
        }
        int copied = 0;
        for (Partition partition : partitions) {
            Replica replica = partition == null ? null : partition.replicaOn(broker);
            if (replica != null && partition.leader != null && replica != partition.leader) {
                copied += partition.leader.end - replica.end;
                replica.end = partition.leader.end;
                replica.catchUp(now);
            }
        }
        return copied;
    }

    public int speed(int messages) throws IllegalArgumentException {
        requireWithin(messages, 0, MOST_SPEED);
        int before = speed;
        speed = messages;
        return before;
    }

    public int tick(int ticks) throws IllegalArgumentException {
        requireWithin(ticks, 1, MOST_TICKS);
        for (int i = 0; i < ticks; i++) {
            passTick();
        }
        return now;
    }

    /** Copying, the in-sync set and retention of a partition touch no other one, so they go together. */
    private void passTick() {
        now++;
        appendDelayed();
        for (Partition partition : partitions) {
            if (partition != null) {
                copyAll(partition);
                checkInSync(partition);
                removeOld(partition);
            }
        }
        for (Group group : groups) {
            if (group != null) {
                group.expelSilent(now);
            }
        }
        for (Producer producer : producers) {
            if (producer != null) {
                producer.sent = 0;
            }
        }
    }

    private void appendDelayed() {
        int kept = 0;
        for (int i = 0; i < delayedCount && i < MOST_MESSAGES; i++) {
            Message message = delayed[i];
            if (message != null && message.due <= now && canAppend(message.producer, message.partition)) {
                message.partition.append(message, now);
            } else {
                delayed[kept] = message;
                kept++;
            }
        }
        delayedCount = kept;
    }

    private void copyAll(Partition partition) {
        for (Replica replica : partition.replicas) {
            if (isFollower(partition, replica)) {
                replica.end = Math.min(replica.end + speed, partition.leader.end);
            }
        }
    }

    private void checkInSync(Partition partition) {
        for (Replica replica : partition.replicas) {
            if (isFollower(partition, replica)) {
                if (replica.end == partition.leader.end) {
                    replica.catchUp(now);
                } else if (now - replica.caughtUp > LAG_TICKS) {
                    replica.isInSync = false;
                }
            }
        }
    }

    /** Whether this is a replica on a live broker that copies from a leader. */
    private boolean isFollower(Partition partition, Replica replica) {
        return replica != null && partition.leader != null && replica != partition.leader && isLive(replica.broker);
    }

    /** In a topic that is not compacted all messages from the first offset on are STORED. */
    private void removeOld(Partition partition) {
        Topic topic = partition.topic;
        if (topic.isCompacted) {
            return;
        }
        int stored = partition.storedCount();
        for (int offset = partition.firstOffset; offset < LOG_SIZE; offset++) {
            Message first = partition.storedAt(offset);
            if (first == null || stored <= topic.size && now - first.tick <= topic.age) {
                return;
            }
            if (offset >= partition.stableOffset()) {
                return;
            }
            first.place = REMOVED;
            partition.firstOffset = offset + 1;
            stored--;
        }
    }

    // ======== producers, transactions

    public int producer() throws IllegalStateException {
        if (producerCount >= MOST_PRODUCERS) {
            throw new IllegalStateException("no room for a producer");
        }
        int number = producerCount;
        producers[number] = new Producer(number);
        producerCount++;
        return number;
    }

    public int quota(int producer, int messages) throws IndexOutOfBoundsException, IllegalArgumentException {
        Producer limited = producerOf(producer);
        requireWithin(messages, 0, MOST_QUOTA);
        int before = limited.quota;
        limited.quota = messages;
        return before;
    }

    public int send(int producer, int topic, int key, int value)
            throws IndexOutOfBoundsException, IllegalArgumentException, IllegalStateException {
        Producer sender = producerOf(producer);
        Partition partition = topicOf(topic).partitionFor(key);
        requireWithin(value, NONE, MOST_VALUE);
        if (!canSend(sender, partition)) {
            throw new IllegalStateException("the message cannot be sent");
        }
        return sendNow(sender, partition, key, value);
    }

    private boolean canSend(Producer sender, Partition partition) {
        return sender.sent < sender.quota && !sender.isBroken && messageCount < MOST_MESSAGES
                && canAppend(sender, partition);
    }

    private boolean canAppend(Producer sender, Partition partition) {
        return partition != null && partition.leader != null && partition.leader.end < LOG_SIZE
                && plainCutCount(sender, partition) == 0;
    }

    private int plainCutCount(Producer sender, Partition partition) {
        int count = 0;
        for (int i = 0; i < messageCount; i++) {
            Message message = messages[i];
            if (message != null && message.isPlainCutOf(sender, partition)) {
                count++;
            }
        }
        return count;
    }

    private int sendNow(Producer sender, Partition partition, int key, int value) {
        Message message = new Message(messageCount, sender, partition, key, value, NONE, sender.transaction);
        keep(message);
        partition.append(message, now);
        sender.sent++;
        return message.number;
    }

    private void keep(Message message) {
        if (messageCount < MOST_MESSAGES) {
            messages[messageCount] = message;
            messageCount++;
        }
    }

    public int sendSome(int producer, int topic, int messages, int seed)
            throws IndexOutOfBoundsException, IllegalArgumentException {
        Producer sender = producerOf(producer);
        Topic target = topicOf(topic);
        requireWithin(messages, 1, MOST_DRAWN);
        int drawn = seed;
        for (int sent = 0; sent < messages; sent++) {
            drawn = drawn * DRAW_FACTOR + DRAW_ADDEND;
            int key = (drawn >>> 16) % DRAWN_KEYS;
            drawn = drawn * DRAW_FACTOR + DRAW_ADDEND;
            int value = (drawn >>> 16) % DRAWN_VALUES;
            Partition partition = target.partitionFor(key);
            if (!canSend(sender, partition)) {
                return sent;
            }
            sendNow(sender, partition, key, value);
        }
        return messages;
    }

    public int sendLater(int producer, int topic, int key, int value, int ticks)
            throws IndexOutOfBoundsException, IllegalArgumentException, IllegalStateException {
        Producer sender = producerOf(producer);
        Partition partition = topicOf(topic).partitionFor(key);
        requireWithin(value, NONE, MOST_VALUE);
        requireWithin(ticks, 1, MOST_DELAY);
        if (messageCount >= MOST_MESSAGES || partition == null) {
            throw new IllegalStateException("no room for a message");
        }
        Message message = new Message(messageCount, sender, partition, key, value, now + ticks, NONE);
        keep(message);
        delay(message);
        return message.number;
    }

    private void delay(Message message) {
        if (delayedCount >= MOST_MESSAGES) {
            return;
        }
        int place = delayedCount;
        for (int i = delayedCount - 1; i >= 0; i--) {
            Message other = delayed[i];
            if (other != null && other.due > message.due) {
                delayed[i + 1] = other;
                place = i;
            }
        }
        delayed[place] = message;
        delayedCount++;
    }

    public int resend(int producer, int partition) throws IndexOutOfBoundsException, IllegalStateException {
        Producer sender = producerOf(producer);
        Partition target = partitionOf(partition);
        int count = plainCutCount(sender, target);
        if (target.leader == null || target.leader.end + count > LOG_SIZE) {
            throw new IllegalStateException("the partition has no leader, or no room");
        }
        for (int i = 0; i < messageCount; i++) {
            Message message = messages[i];
            if (message != null && message.isPlainCutOf(sender, target)) {
                target.append(message, now);
            }
        }
        return count;
    }

    public int begin(int producer) throws IndexOutOfBoundsException, IllegalStateException {
        Producer beginner = producerOf(producer);
        if (beginner.transaction != NONE) {
            throw new IllegalStateException("a transaction goes on");
        }
        beginner.transaction = transactionsBegun;
        transactionsBegun++;
        return beginner.transaction;
    }

    public int attach(int producer, int group, int member) throws IndexOutOfBoundsException, IllegalStateException {
        Producer owner = producerOf(producer);
        Group read = groupOf(group);
        Member reader = memberOf(read, member);
        if (owner.transaction == NONE || owner.isBroken) {
            throw new IllegalStateException("no transaction goes on, or it is broken");
        }
        return owner.notePlaces(read, reader);
    }

    public int commit(int producer) throws IndexOutOfBoundsException, IllegalStateException {
        Producer owner = producerOf(producer);
        if (owner.transaction == NONE || owner.isBroken || !isReplicated(owner.transaction)
                || !owner.placesStand()) {
            throw new IllegalStateException("the transaction cannot be committed");
        }
        owner.commitPlaces();
        int count = settle(owner.transaction, COMMITTED);
        owner.endTransaction();
        return count;
    }

    private boolean isReplicated(int transaction) {
        for (int i = 0; i < messageCount; i++) {
            Message message = messages[i];
            if (message != null && message.transaction == transaction
                    && message.offset >= message.partition.highWatermark()) {
                return false;
            }
        }
        return true;
    }

    /** Gives all messages of a transaction what they are of from now on, and counts them. */
    private int settle(int transaction, int kind) {
        int count = 0;
        for (int i = 0; i < messageCount; i++) {
            Message message = messages[i];
            if (message != null && message.transaction == transaction) {
                message.kind = kind;
                count++;
            }
        }
        return count;
    }

    public int abort(int producer) throws IndexOutOfBoundsException, IllegalStateException {
        Producer owner = producerOf(producer);
        if (owner.transaction == NONE) {
            throw new IllegalStateException("no transaction goes on");
        }
        int count = settle(owner.transaction, ABORTED);
        owner.endTransaction();
        return count;
    }

    // ======== groups

    public int group(int topics) throws IllegalArgumentException, IllegalStateException {
        if (topics <= 0 || topics >= (1 << topicCount)) {
            throw new IllegalArgumentException("no such topics");
        }
        if (groupCount >= MOST_GROUPS) {
            throw new IllegalStateException("no room for a group");
        }
        Group made = new Group();
        for (Partition partition : partitions) {
            if (partition != null && (topics & (1 << partition.topic.number)) != 0) {
                made.addShare(partition);
            }
        }
        int number = groupCount;
        groups[number] = made;
        groupCount++;
        return number;
    }

    public int join(int group) throws IndexOutOfBoundsException, IllegalStateException {
        Group joined = groupOf(group);
        if (joined.joinCount >= MOST_JOINS || joined.memberCount() >= MOST_MEMBERS) {
            throw new IllegalStateException("no room for a member");
        }
        return joined.addMember(now);
    }

    public int leave(int group, int member) throws IndexOutOfBoundsException {
        Group left = groupOf(group);
        return left.removeMember(memberOf(left, member), now);
    }

    public int beat(int group, int member) throws IndexOutOfBoundsException {
        Group beaten = groupOf(group);
        Member beating = memberOf(beaten, member);
        beating.beatTick = now;
        beaten.followTargets(beating, now);
        return beaten.ownedCount(beating);
    }

    public int credits(int group, int member, int messages)
            throws IndexOutOfBoundsException, IllegalArgumentException, IllegalStateException {
        Member reader = memberOf(groupOf(group), member);
        requireWithin(messages, 1, MOST_CREDITS);
        if (reader.hand.size > messages) {
            throw new IllegalStateException("the hand has more");
        }
        int before = reader.credits;
        reader.credits = messages;
        return before;
    }

    public int read(int group, int member) throws IndexOutOfBoundsException {
        Group from = groupOf(group);
        Letter letter = from.deliverNext(memberOf(from, member), now);
        return letter == null ? NONE : letter.message.number;
    }

    public int done(int group, int member, int message) throws IndexOutOfBoundsException, IllegalStateException {
        Member reader = memberOf(groupOf(group), member);
        Letter finished = letterInHand(reader, message);
        finished.where = AWAY;
        reader.hand.removeLetter(finished);
        return reader.hand.size;
    }

    public int retry(int group, int member, int message) throws IndexOutOfBoundsException, IllegalStateException {
        Group from = groupOf(group);
        Member reader = memberOf(from, member);
        return from.failLetter(reader, letterInHand(reader, message), now);
    }

    public int commitOffsets(int group, int member) throws IndexOutOfBoundsException {
        Group committed = groupOf(group);
        return committed.commitAll(memberOf(committed, member));
    }

    public int seek(int group, int partition, int offset)
            throws IndexOutOfBoundsException, IllegalArgumentException, IllegalStateException {
        Group sought = groupOf(group);
        Share share = shareOf(sought, partition);
        requireWithin(offset, 0, LOG_SIZE);
        if (share.owner != null) {
            throw new IllegalStateException("the partition has an owner");
        }
        int before = share.committed;
        share.committed = offset;
        share.soughtTo = offset;
        sought.forget(share.partition);
        return before;
    }

    // ======== questions

    public int message(int message, int what) throws IndexOutOfBoundsException, IllegalArgumentException {
        Message asked = messageOf(message);
        requireWithin(what, 0, 8);
        return tellMessage(asked, what);
    }

    private static int tellMessage(Message message, int what) {
        switch (what) {
            case 0: return message.place;
            case 1: return message.kind;
            case 2: return message.producer.number;
            case 3: return message.partition.number;
            case 4: return message.offset;
            case 5: return message.key;
            case 6: return message.value;
            case 7: return message.tick;
            default: return message.canBeRead() ? 1 : 0;
        }
    }

    public int at(int partition, int offset) throws IndexOutOfBoundsException {
        Partition asked = partitionOf(partition);
        if (offset < 0) {
            throw new IndexOutOfBoundsException("the offset is below 0");
        }
        Message stored = asked.storedAt(offset);
        return stored == null ? NONE : stored.number;
    }

    public int partition(int partition, int what) throws IndexOutOfBoundsException, IllegalArgumentException {
        Partition asked = partitionOf(partition);
        requireWithin(what, 0, 7);
        return tellPartition(asked, what);
    }

    private static int tellPartition(Partition partition, int what) {
        switch (what) {
            case 0: return partition.topic.number;
            case 1: return partition.leader == null ? NONE : partition.leader.number;
            case 2: return partition.inSyncBits();
            case 3: return partition.highWatermark();
            case 4: return partition.stableOffset();
            case 5: return partition.firstOffset;
            case 6: return partition.logEnd();
            default: return partition.storedCount();
        }
    }

    public int replica(int partition, int replica, int what) throws IndexOutOfBoundsException, IllegalArgumentException {
        Replica asked = replicaOf(partitionOf(partition), replica);
        requireWithin(what, 0, 2);
        switch (what) {
            case 0: return asked.broker;
            case 1: return asked.end;
            default: return asked.caughtUp;
        }
    }

    public int offsetAt(int partition, int tick) throws IndexOutOfBoundsException {
        Partition asked = partitionOf(partition);
        int end = asked.logEnd();
        for (int offset = 0; offset < end; offset++) {
            Message stored = asked.storedAt(offset);
            if (stored != null && stored.tick >= tick) {
                return offset;
            }
        }
        return end;
    }

    public int value(int topic, int key) throws IndexOutOfBoundsException {
        Partition asked = topicOf(topic).partitionFor(key);
        Message last = asked == null ? null : asked.lastReadable(key, asked.stableOffset());
        return last == null ? NONE : last.value;
    }

    public int sum(int topic, int key, int from, int to) throws IndexOutOfBoundsException {
        Partition asked = topicOf(topic).partitionFor(key);
        if (asked == null) {
            return 0;
        }
        int stable = asked.stableOffset();
        int total = 0;
        for (int offset = 0; offset < stable; offset++) {
            Message message = asked.readableAt(offset, stable);
            if (message != null && message.key == key && message.value != NONE
                    && message.tick >= from && message.tick <= to) {
                total += message.value;
            }
        }
        return total;
    }

    public int share(int group, int partition, int what) throws IndexOutOfBoundsException, IllegalArgumentException {
        Group asked = groupOf(group);
        Share share = shareOf(asked, partition);
        requireWithin(what, 0, 6);
        return tellShare(asked, share, what);
    }

    private static int tellShare(Group group, Share share, int what) {
        switch (what) {
            case 0: return share.owner == null ? NONE : share.owner.number;
            case 1: return share.target == null ? NONE : share.target.number;
            case 2: return share.committed;
            case 3: return share.owner == null ? NONE : share.readOn;
            case 4: return group.lag(share);
            case 5: return group.waiting.countOf(share.partition);
            default: return group.deadLetters.countOf(share.partition);
        }
    }

    public int member(int group, int member, int what) throws IndexOutOfBoundsException, IllegalArgumentException {
        Group asked = groupOf(group);
        Member told = memberOf(asked, member);
        requireWithin(what, 0, 4);
        switch (what) {
            case 0: return asked.ownedCount(told);
            case 1: return asked.targetCount(told);
            case 2: return told.credits;
            case 3: return told.hand.size;
            default: return told.beatTick;
        }
    }

    public int hand(int group, int member, int place, int what)
            throws IndexOutOfBoundsException, IllegalArgumentException {
        Letter held = letterAt(memberOf(groupOf(group), member).hand, place);
        requireWithin(what, 0, 2);
        switch (what) {
            case 0: return held.message.number;
            case 1: return held.attempts;
            default: return held.isFromRow ? 1 : 0;
        }
    }

    public int waits(int group, int place, int what) throws IndexOutOfBoundsException, IllegalArgumentException {
        Letter waiting = letterAt(groupOf(group).waiting, place);
        requireWithin(what, 0, 2);
        switch (what) {
            case 0: return waiting.message.number;
            case 1: return waiting.due;
            default: return waiting.attempts;
        }
    }

    public int dead(int group, int place) throws IndexOutOfBoundsException {
        return letterAt(groupOf(group).deadLetters, place).message.number;
    }

    public int seen(int group, int message) throws IndexOutOfBoundsException {
        Group asked = groupOf(group);
        Letter letter = asked.knownLetter(messageOf(message));
        return letter == null ? 0 : letter.seen;
    }

    public int count(int what) throws IllegalArgumentException {
        requireWithin(what, 0, 9);
        switch (what) {
            case 0: return topicCount;
            case 1: return partitionCount;
            case 2: return producerCount;
            case 3: return groupCount;
            case 4: return messageCount;
            case 5: return now;
            case 6: return liveBrokers;
            case 7: return openTransactions();
            case 8: return messagesIn(CUT);
            default: return messagesIn(WAITING);
        }
    }

    private int openTransactions() {
        int open = 0;
        for (Producer producer : producers) {
            if (producer != null && producer.transaction != NONE) {
                open++;
            }
        }
        return open;
    }

    private int messagesIn(int place) {
        int found = 0;
        for (Message message : messages) {
            if (message != null && message.place == place) {
                found++;
            }
        }
        return found;
    }

    public int ofGroup(int group, int what) throws IndexOutOfBoundsException, IllegalArgumentException {
        Group asked = groupOf(group);
        requireWithin(what, 0, 5);
        return tellGroup(asked, what);
    }

    private static int tellGroup(Group group, int what) {
        switch (what) {
            case 0: return group.generation;
            case 1: return group.memberBits();
            case 2: return group.isAtRest() ? 1 : 0;
            case 3: return group.waiting.size;
            case 4: return group.deadLetters.size;
            default: return group.moved;
        }
    }

    public boolean audit(int part) throws IllegalArgumentException {
        requireWithin(part, 0, 6);
        switch (part) {
            case 0: return logsHold();
            case 1: return producersHold();
            case 2: return transactionsHold();
            case 3: return orderHolds();
            case 4: return offsetsHold();
            case 5: return sharesHold();
            default: return logsHold() && producersHold() && transactionsHold() && orderHolds()
                    && offsetsHold() && sharesHold();
        }
    }

    private boolean logsHold() {
        for (Message message : messages) {
            if (message != null && message.place == STORED && !message.standsAtItsOffset()) {
                return false;
            }
        }
        for (Partition partition : partitions) {
            if (partition != null && !(partition.endsHold() && partition.ticksHold())) {
                return false;
            }
        }
        return true;
    }

    private boolean producersHold() {
        for (Producer producer : producers) {
            for (Partition partition : partitions) {
                if (producer != null && partition != null && !partition.numbersRise(producer)) {
                    return false;
                }
            }
        }
        return true;
    }

    private boolean transactionsHold() {
        for (Message message : messages) {
            if (message != null && !transactionHolds(message)) {
                return false;
            }
        }
        return true;
    }

    private boolean transactionHolds(Message message) {
        if (message.place == CUT && message.kind == COMMITTED) {
            return false;
        }
        return message.place == REMOVED || !wasDelivered(message) || message.canBeRead();
    }

    private boolean wasDelivered(Message message) {
        for (Group group : groups) {
            Letter letter = group == null ? null : group.knownLetter(message);
            if (letter != null && letter.seen > 0) {
                return true;
            }
        }
        return false;
    }

    private boolean orderHolds() {
        for (Group group : groups) {
            if (group != null && !group.orderHolds()) {
                return false;
            }
        }
        return true;
    }

    private boolean offsetsHold() {
        for (Group group : groups) {
            if (group != null && !group.offsetsHold()) {
                return false;
            }
        }
        return true;
    }

    private boolean sharesHold() {
        for (Group group : groups) {
            if (group != null && !(group.sharesHold() && group.handsHold())) {
                return false;
            }
        }
        return true;
    }

    public int digest() {
        int taken = 17;
        for (Message message : messages) {
            if (message != null) {
                taken = 31 * taken + tellMessage(message, 0);
                taken = 31 * taken + tellMessage(message, 1);
                taken = 31 * taken + tellMessage(message, 4);
                taken = 31 * taken + tellMessage(message, 7);
            }
        }
        for (Partition partition : partitions) {
            for (int what = 1; what <= 7 && partition != null; what++) {
                taken = 31 * taken + tellPartition(partition, what);
            }
        }
        for (Group group : groups) {
            if (group != null) {
                taken = takeInGroup(taken, group);
            }
        }
        return taken;
    }

    private static int takeInGroup(int before, Group group) {
        int taken = before;
        taken = 31 * taken + tellGroup(group, 0);
        taken = 31 * taken + tellGroup(group, 1);
        taken = 31 * taken + tellGroup(group, 3);
        taken = 31 * taken + tellGroup(group, 4);
        for (Share share : group.shares) {
            for (int what = 0; what <= 4 && share != null; what++) {
                taken = 31 * taken + tellShare(group, share, what);
            }
        }
        return taken;
    }

    // ======== what the arguments name

    private static void requireWithin(int number, int least, int most) {
        if (number < least || number > most) {
            throw new IllegalArgumentException("out of range");
        }
    }

    private static void requireBroker(int broker) {
        if (broker < 0 || broker >= BROKERS) {
            throw new IndexOutOfBoundsException("no such broker");
        }
    }

    private boolean isLive(int broker) {
        return (liveBrokers & (1 << broker)) != 0;
    }

    private Topic topicOf(int number) {
        Topic found = number >= 0 && number < topics.length ? topics[number] : null;
        if (found == null) {
            throw new IndexOutOfBoundsException("no such topic");
        }
        return found;
    }

    private Partition partitionOf(int number) {
        Partition found = number >= 0 && number < partitions.length ? partitions[number] : null;
        if (found == null) {
            throw new IndexOutOfBoundsException("no such partition");
        }
        return found;
    }

    private static Replica replicaOf(Partition partition, int number) {
        Replica[] replicas = partition.replicas;
        Replica found = number >= 0 && number < replicas.length ? replicas[number] : null;
        if (found == null) {
            throw new IndexOutOfBoundsException("no such replica");
        }
        return found;
    }

    private Producer producerOf(int number) {
        Producer found = number >= 0 && number < producers.length ? producers[number] : null;
        if (found == null) {
            throw new IndexOutOfBoundsException("no such producer");
        }
        return found;
    }

    private Message messageOf(int number) {
        Message found = number >= 0 && number < messages.length ? messages[number] : null;
        if (found == null) {
            throw new IndexOutOfBoundsException("no such message");
        }
        return found;
    }

    private Group groupOf(int number) {
        Group found = number >= 0 && number < groups.length ? groups[number] : null;
        if (found == null) {
            throw new IndexOutOfBoundsException("no such group");
        }
        return found;
    }

    private static Member memberOf(Group group, int number) {
        Member[] members = group.members;
        Member found = number >= 0 && number < members.length ? members[number] : null;
        if (found == null) {
            throw new IndexOutOfBoundsException("no such member in the group");
        }
        return found;
    }

    private static Share shareOf(Group group, int partition) {
        Share found = group.shareAt(partition);
        if (found == null) {
            throw new IndexOutOfBoundsException("the group has no such partition");
        }
        return found;
    }

    private static Letter letterAt(LetterList list, int place) {
        Letter found = list.get(place);
        if (found == null) {
            throw new IndexOutOfBoundsException("no such place");
        }
        return found;
    }

    private static Letter letterInHand(Member member, int message) {
        Letter found = member.hand.ofMessage(message);
        if (found == null) {
            throw new IllegalStateException("the message is not in the hand");
        }
        return found;
    }

    // ======== topics, partitions, replicas

    private static final class Topic {
        final int number;
        final int partitions;
        final int replicas;
        final boolean isCompacted;
        final Partition[] own = new Partition[MOST_OWN_PARTITIONS];
        int age = MOST_AGE;
        int size = LOG_SIZE;

        Topic(int number, int partitions, int replicas, boolean isCompacted) {
            this.number = number;
            this.partitions = partitions;
            this.replicas = replicas;
            this.isCompacted = isCompacted;
        }

        Partition partitionFor(int key) {
            int place = partitions > 1 ? Math.floorMod(key, partitions) : 0;
            return place < own.length ? own[place] : null;
        }
    }

    private static final class Replica {
        final int number;
        final int broker;
        int end = 0;
        int caughtUp;
        boolean isInSync = true;

        Replica(int number, int broker, int now) {
            this.number = number;
            this.broker = broker;
            this.caughtUp = now;
        }

        void catchUp(int now) {
            caughtUp = now;
            isInSync = true;
        }
    }

    private static final class Partition {
        final int number;
        final Topic topic;
        final Replica[] replicas = new Replica[MOST_REPLICAS];
        /** By offsets; REMOVED messages stay in it, so that they keep their offsets. */
        private final Message[] log = new Message[LOG_SIZE];
        Replica leader;
        int firstOffset = 0;

        Partition(int number, Topic topic, int own, int now) {
            this.number = number;
            this.topic = topic;
            for (int r = 0; r < topic.replicas && r < MOST_REPLICAS; r++) {
                replicas[r] = new Replica(r, (topic.number + own + r) % BROKERS, now);
            }
            leader = replicas[0];
        }

        Replica replicaOn(int broker) {
            for (Replica replica : replicas) {
                if (replica != null && replica.broker == broker) {
                    return replica;
                }
            }
            return null;
        }

        Replica firstInSyncBut(Replica left) {
            for (Replica replica : replicas) {
                if (replica != null && replica != left && replica.isInSync) {
                    return replica;
                }
            }
            return null;
        }

        /**
         * Ends on brokers that are not live are lowered at once, too: nothing but replica() looks at them
         * until the broker is restored, and that tells them as they would be then.
         */
        void lowerEnds() {
            for (Replica replica : replicas) {
                if (replica != null && leader != null && replica.end > leader.end) {
                    replica.end = leader.end;
                }
            }
        }

        int inSyncBits() {
            int bits = 0;
            for (Replica replica : replicas) {
                if (replica != null && replica.isInSync) {
                    bits |= 1 << replica.number;
                }
            }
            return bits;
        }

        int logEnd() {
            Replica last = leader != null ? leader : firstInSyncBut(null);
            return last == null ? 0 : last.end;
        }

        int highWatermark() {
            int least = LOG_SIZE;
            for (Replica replica : replicas) {
                if (replica != null && replica.isInSync) {
                    least = Math.min(least, replica.end);
                }
            }
            return least;
        }

        int stableOffset() {
            int watermark = highWatermark();
            for (int offset = firstOffset; offset < watermark; offset++) {
                Message message = messageAt(offset);
                if (message != null && message.kind == OPEN) {
                    return offset;
                }
            }
            return watermark;
        }

        private Message messageAt(int offset) {
            return offset >= 0 && offset < log.length ? log[offset] : null;
        }

        Message storedAt(int offset) {
            Message message = messageAt(offset);
            return message != null && message.place == STORED ? message : null;
        }

        /** The stable offset is handed in, so that one look at the whole log does for many offsets. */
        Message readableAt(int offset, int stable) {
            Message message = offset < stable ? storedAt(offset) : null;
            return message != null && message.isPlainOrCommitted() ? message : null;
        }

        Message lastReadable(int key, int stable) {
            for (int offset = stable - 1; offset >= 0; offset--) {
                Message message = readableAt(offset, stable);
                if (message != null && message.key == key) {
                    return message;
                }
            }
            return null;
        }

        int storedCount() {
            int end = logEnd();
            int stored = 0;
            for (int offset = firstOffset; offset < end; offset++) {
                if (storedAt(offset) != null) {
                    stored++;
                }
            }
            return stored;
        }

        void append(Message message, int now) {
            if (leader == null || leader.end < 0 || leader.end >= log.length) {
                return;
            }
            log[leader.end] = message;
            message.place = STORED;
            message.offset = leader.end;
            message.tick = now;
            leader.end++;
        }

        Message takeAt(int offset) {
            Message taken = messageAt(offset);
            if (taken != null) {
                log[offset] = null;
            }
            return taken;
        }

        boolean endsHold() {
            int end = logEnd();
            int watermark = highWatermark();
            for (Replica replica : replicas) {
                if (replica != null && (replica.end > end || replica.isInSync && watermark > replica.end)) {
                    return false;
                }
            }
            return true;
        }

        boolean ticksHold() {
            int latest = 0;
            for (int offset = 0; offset < log.length; offset++) {
                Message message = storedAt(offset);
                if (message != null) {
                    if (message.tick < latest) {
                        return false;
                    }
                    latest = message.tick;
                }
            }
            return true;
        }

        boolean numbersRise(Producer producer) {
            int latest = NONE;
            for (Message message : log) {
                if (message != null && message.producer == producer && !message.isDelayed()
                        && message.isPlainOrCommitted()) {
                    if (message.number <= latest) {
                        return false;
                    }
                    latest = message.number;
                }
            }
            return true;
        }
    }

    // ======== messages, producers

    private static final class Message {
        final int number;
        final Producer producer;
        final Partition partition;
        final int key;
        final int value;
        /** The tick in which a delayed message is due; NONE of a message that was sent at once. */
        final int due;
        final int transaction;
        int place = WAITING;
        int kind;
        int offset = NONE;
        int tick = NONE;

        Message(int number, Producer producer, Partition partition, int key, int value, int due, int transaction) {
            this.number = number;
            this.producer = producer;
            this.partition = partition;
            this.key = key;
            this.value = value;
            this.due = due;
            this.transaction = transaction;
            this.kind = transaction == NONE ? PLAIN : OPEN;
        }

        boolean isDelayed() {
            return due != NONE;
        }

        boolean isPlainOrCommitted() {
            return kind == PLAIN || kind == COMMITTED;
        }

        boolean isPlainCutOf(Producer sender, Partition target) {
            return place == CUT && kind == PLAIN && producer == sender && partition == target;
        }

        boolean canBeRead() {
            return place == STORED && isPlainOrCommitted() && offset < partition.stableOffset();
        }

        boolean standsAtItsOffset() {
            return offset < partition.logEnd() && partition.storedAt(offset) == this;
        }
    }

    private static final class Producer {
        final int number;
        int quota = 10;
        int sent = 0;
        int transaction = NONE;
        boolean isBroken = false;
        private Group attachedGroup = null;
        private Member attachedMember = null;
        private int attachedGeneration = 0;
        /** By partitions; NONE where nothing is attached. */
        private final int[] attachedPlaces = new int[MOST_PARTITIONS];

        Producer(int number) {
            this.number = number;
        }

        int notePlaces(Group group, Member member) {
            int noted = 0;
            for (int p = 0; p < attachedPlaces.length; p++) {
                Share share = group.shareAt(p);
                boolean isOwned = share != null && share.owner == member;
                attachedPlaces[p] = isOwned ? member.placeIn(share) : NONE;
                noted += isOwned ? 1 : 0;
            }
            attachedGroup = noted > 0 ? group : null;
            attachedMember = member;
            attachedGeneration = group.generation;
            return noted;
        }

        boolean placesStand() {
            if (attachedGroup == null) {
                return true;
            }
            for (int p = 0; p < attachedPlaces.length; p++) {
                Share share = attachedGroup.shareAt(p);
                if (attachedPlaces[p] != NONE && (share == null || share.owner != attachedMember)) {
                    return false;
                }
            }
            return attachedGroup.generation == attachedGeneration;
        }

        void commitPlaces() {
            for (int p = 0; p < attachedPlaces.length && attachedGroup != null; p++) {
                Share share = attachedGroup.shareAt(p);
                if (share != null && attachedPlaces[p] > share.committed) {
                    share.committed = attachedPlaces[p];
                }
            }
        }

        void endTransaction() {
            transaction = NONE;
            isBroken = false;
            attachedGroup = null;
        }
    }

    // ======== groups

    /** A message as a group knows it. */
    private static final class Letter {
        final Message message;
        int where = AWAY;
        int due = 0;
        int attempts = 0;
        boolean isFromRow = false;
        int seen = 0;
        /** Which of the group's first deliveries it was since the latest seek() of its partition; 0 of none. */
        int firstDelivery = 0;

        Letter(Message message) {
            this.message = message;
        }

        boolean isOfRow(Message other) {
            return message.partition == other.partition && message.key == other.key;
        }

        boolean isBefore(Letter other) {
            return due != other.due ? due < other.due : message.number < other.message.number;
        }

        boolean waitsOrIsDead() {
            return where == IN_ROW || where == DEAD;
        }
    }

    private static final class LetterList {
        private final Letter[] letters;
        int size = 0;

        LetterList(int most) {
            letters = new Letter[most > 0 ? most : 0];
        }

        Letter get(int place) {
            return place >= 0 && place < size && place < letters.length ? letters[place] : null;
        }

        Letter ofMessage(int number) {
            for (int i = 0; i < size; i++) {
                Letter letter = get(i);
                if (letter != null && letter.message.number == number) {
                    return letter;
                }
            }
            return null;
        }

        void addLast(Letter letter) {
            if (size < letters.length) {
                letters[size] = letter;
                size++;
            }
        }

        void addByDue(Letter letter) {
            if (size >= letters.length) {
                return;
            }
            int place = size;
            for (int i = size - 1; i >= 0; i--) {
                Letter other = letters[i];
                if (other != null && letter.isBefore(other)) {
                    letters[i + 1] = other;
                    place = i;
                }
            }
            letters[place] = letter;
            size++;
        }

        void removeLetter(Letter letter) {
            int kept = 0;
            for (int i = 0; i < size && i < letters.length; i++) {
                if (letters[i] != letter) {
                    letters[kept] = letters[i];
                    kept++;
                }
            }
            size = kept;
        }

        int countOf(Partition partition) {
            int count = 0;
            for (int i = 0; i < size; i++) {
                Letter letter = get(i);
                if (letter != null && letter.message.partition == partition) {
                    count++;
                }
            }
            return count;
        }

        /** Whether the row of a message has none below an offset. */
        boolean hasNoneOfRow(Message message, int offset) {
            for (int i = 0; i < size; i++) {
                Letter letter = get(i);
                if (letter != null && letter.isOfRow(message) && letter.message.offset < offset) {
                    return false;
                }
            }
            return true;
        }
    }

    /** A partition as a group reads it. */
    private static final class Share {
        final Partition partition;
        Member owner = null;
        Member target = null;
        int committed = 0;
        int readOn = 0;
        /** The offset of the latest seek(). */
        int soughtTo = 0;

        Share(Partition partition) {
            this.partition = partition;
        }
    }

    private static final class Member {
        final int number;
        final LetterList hand = new LetterList(MOST_CREDITS);
        int beatTick;
        int credits = 3;
        int latestPartition = NONE;
        /** Of how many partitions it is the target, and is to be, while targets are dealt. */
        int targets = 0;
        int fairShare = 0;

        Member(int number, int now) {
            this.number = number;
            this.beatTick = now;
        }

        int placeIn(Share share) {
            int least = share.readOn;
            for (int i = 0; i < hand.size; i++) {
                Letter letter = hand.get(i);
                if (letter != null && !letter.isFromRow && letter.message.partition == share.partition) {
                    least = Math.min(least, letter.message.offset);
                }
            }
            return least;
        }
    }

    private static final class Group {
        /** By the numbers of the partitions; null where the group does not read one. */
        final Share[] shares = new Share[MOST_PARTITIONS];
        /** By their numbers; null where a member has not joined yet, or is gone. */
        final Member[] members = new Member[MOST_JOINS];
        /** By the numbers of the messages; null where the group has not met one yet. */
        private final Letter[] letters = new Letter[MOST_MESSAGES];
        final LetterList waiting = new LetterList(MOST_MESSAGES);
        final LetterList deadLetters = new LetterList(MOST_MESSAGES);
        int joinCount = 0;
        int generation = 0;
        int moved = 0;
        private int shareCount = 0;
        private int firstDeliveries = 0;

        void addShare(Partition partition) {
            if (partition.number >= 0 && partition.number < shares.length) {
                shares[partition.number] = new Share(partition);
                shareCount++;
            }
        }

        Share shareAt(int partition) {
            return partition >= 0 && partition < shares.length ? shares[partition] : null;
        }

        Letter knownLetter(Message message) {
            return message.number >= 0 && message.number < letters.length ? letters[message.number] : null;
        }

        private Letter letterOf(Message message) {
            Letter known = knownLetter(message);
            if (known != null) {
                return known;
            }
            Letter made = new Letter(message);
            if (message.number >= 0 && message.number < letters.length) {
                letters[message.number] = made;
            }
            return made;
        }

        int memberCount() {
            int count = 0;
            for (Member member : members) {
                if (member != null) {
                    count++;
                }
            }
            return count;
        }

        int memberBits() {
            int bits = 0;
            for (Member member : members) {
                if (member != null) {
                    bits |= 1 << member.number;
                }
            }
            return bits;
        }

        int ownedCount(Member member) {
            int count = 0;
            for (Share share : shares) {
                if (share != null && share.owner == member) {
                    count++;
                }
            }
            return count;
        }

        int targetCount(Member member) {
            int count = 0;
            for (Share share : shares) {
                if (share != null && share.target == member) {
                    count++;
                }
            }
            return count;
        }

        boolean isAtRest() {
            for (Share share : shares) {
                if (share != null && share.owner != share.target) {
                    return false;
                }
            }
            return memberCount() > 0;
        }

        // ---- members and their partitions

        int addMember(int now) {
            if (joinCount >= members.length) {
                return NONE;
            }
            Member member = new Member(joinCount, now);
            members[joinCount] = member;
            joinCount++;
            generation++;
            dealTargets();
            return member.number;
        }

        int removeMember(Member member, int now) {
            int given = 0;
            for (Share share : shares) {
                if (share != null && share.owner == member) {
                    giveUp(share, member, now);
                    given++;
                }
                if (share != null && share.target == member) {
                    share.target = null;
                }
            }
            if (member.number >= 0 && member.number < members.length) {
                members[member.number] = null;
            }
            generation++;
            dealTargets();
            return given;
        }

        void expelSilent(int now) {
            for (Member member : members) {
                if (member != null && now - member.beatTick > BEAT_TICKS) {
                    removeMember(member, now);
                }
            }
        }

        /** Targets that are gone are none by now, so that only moves between members are counted. */
        private void dealTargets() {
            moved = 0;
            setFairShares(memberCount());
            dropSurplus();
            for (Share share : shares) {
                if (share != null && share.target == null) {
                    share.target = firstBelowFairShare();
                    if (share.target != null) {
                        share.target.targets++;
                    }
                }
            }
        }

        private void setFairShares(int present) {
            if (present <= 0) {
                return;
            }
            for (Member member : members) {
                if (member != null) {
                    member.targets = targetCount(member);
                }
            }
            int remainder = shareCount % present;
            for (Member member : members) {
                if (member != null) {
                    member.fairShare = shareCount / present + (rankOf(member) < remainder ? 1 : 0);
                }
            }
        }

        private int rankOf(Member ranked) {
            int ahead = 0;
            for (Member member : members) {
                if (member != null && (member.targets > ranked.targets
                        || member.targets == ranked.targets && member.number < ranked.number)) {
                    ahead++;
                }
            }
            return ahead;
        }

        private void dropSurplus() {
            for (Member member : members) {
                if (member != null) {
                    member.targets = 0;
                }
            }
            for (Share share : shares) {
                if (share != null && share.target != null) {
                    if (share.target.targets < share.target.fairShare) {
                        share.target.targets++;
                    } else {
                        share.target = null;
                        moved++;
                    }
                }
            }
        }

        private Member firstBelowFairShare() {
            for (Member member : members) {
                if (member != null && member.targets < member.fairShare) {
                    return member;
                }
            }
            return null;
        }

        void followTargets(Member member, int now) {
            for (Share share : shares) {
                if (share != null && share.owner == member && share.target != member) {
                    giveUp(share, member, now);
                }
            }
            for (Share share : shares) {
                if (share != null && share.owner == null && share.target == member) {
                    share.owner = member;
                    share.readOn = Math.max(share.committed, share.partition.firstOffset);
                }
            }
        }

        private void giveUp(Share share, Member member, int now) {
            share.owner = null;
            for (int i = member.hand.size - 1; i >= 0; i--) {
                Letter letter = member.hand.get(i);
                if (letter != null && letter.message.partition == share.partition) {
                    member.hand.removeLetter(letter);
                    letter.where = AWAY;
                    if (letter.isFromRow) {
                        putInRow(letter, now);
                    }
                }
            }
        }

        private void putInRow(Letter letter, int due) {
            letter.where = IN_ROW;
            letter.due = due;
            waiting.addByDue(letter);
        }

        // ---- reading

        Letter deliverNext(Member member, int now) {
            if (member.hand.size >= member.credits) {
                return null;
            }
            Letter due = firstDue(member, now);
            if (due != null) {
                waiting.removeLetter(due);
                return deliver(member, due, true);
            }
            for (int i = 1; i <= shares.length; i++) {
                Share share = shareAt((member.latestPartition + i) % shares.length);
                if (share != null && share.owner == member && share.partition.leader != null) {
                    Letter next = nextOfLog(share, now);
                    if (next != null) {
                        member.latestPartition = share.partition.number;
                        return deliver(member, next, false);
                    }
                }
            }
            return null;
        }

        private Letter firstDue(Member member, int now) {
            for (int i = 0; i < waiting.size; i++) {
                Letter letter = waiting.get(i);
                if (letter == null || letter.due > now) {
                    return null;
                }
                Share share = shareAt(letter.message.partition.number);
                if (share != null && share.owner == member
                        && waiting.hasNoneOfRow(letter.message, letter.message.offset)) {
                    return letter;
                }
            }
            return null;
        }

        private Letter nextOfLog(Share share, int now) {
            int stable = share.partition.stableOffset();
            for (int offset = share.readOn; offset < stable; offset++) {
                Message message = share.partition.readableAt(offset, stable);
                if (message != null) {
                    share.readOn = offset + 1;
                    Letter letter = letterOf(message);
                    if (letter.where == AWAY) {
                        letter.attempts = 0;
                        if (waiting.hasNoneOfRow(message, LOG_SIZE)) {
                            return letter;
                        }
                        putInRow(letter, now);
                    }
                }
            }
            return null;
        }

        private Letter deliver(Member member, Letter letter, boolean isFromRow) {
            letter.where = IN_HAND;
            letter.isFromRow = isFromRow;
            letter.seen++;
            if (letter.firstDelivery == 0) {
                firstDeliveries++;
                letter.firstDelivery = firstDeliveries;
            }
            member.hand.addLast(letter);
            return letter;
        }

        int failLetter(Member member, Letter failed, int now) {
            sendBackBehind(member, failed, now);
            member.hand.removeLetter(failed);
            failed.attempts++;
            if (failed.attempts >= DEADLY_ATTEMPTS) {
                failed.where = DEAD;
                deadLetters.addLast(failed);
                return NONE;
            }
            putInRow(failed, now + (failed.attempts == 1 ? FIRST_DELAY : SECOND_DELAY));
            return failed.due;
        }

        private void sendBackBehind(Member member, Letter failed, int now) {
            for (int i = member.hand.size - 1; i >= 0; i--) {
                Letter letter = member.hand.get(i);
                if (letter == failed) {
                    return;
                }
                if (letter != null && letter.isOfRow(failed.message)) {
                    member.hand.removeLetter(letter);
                    putInRow(letter, now);
                }
            }
        }

        int commitAll(Member member) {
            int changed = 0;
            for (Share share : shares) {
                if (share != null && share.owner == member) {
                    int place = member.placeIn(share);
                    if (place != share.committed) {
                        share.committed = place;
                        changed++;
                    }
                }
            }
            return changed;
        }

        /** Forgets what waits, is dead or was delivered of a partition; how often stays known. */
        void forget(Partition partition) {
            for (Letter letter : letters) {
                if (letter != null && letter.message.partition == partition) {
                    waiting.removeLetter(letter);
                    deadLetters.removeLetter(letter);
                    letter.where = AWAY;
                    letter.firstDelivery = 0;
                }
            }
        }

        int lag(Share share) {
            int stable = share.partition.stableOffset();
            int behind = 0;
            for (int offset = share.committed; offset < stable; offset++) {
                Message message = share.partition.readableAt(offset, stable);
                Letter letter = message == null ? null : knownLetter(message);
                if (message != null && (letter == null || !letter.waitsOrIsDead())) {
                    behind++;
                }
            }
            return behind;
        }

        // ---- audits

        boolean orderHolds() {
            for (Letter letter : letters) {
                if (letter != null && letter.firstDelivery > 0) {
                    for (Letter other : letters) {
                        if (other != null && other.firstDelivery > letter.firstDelivery
                                && other.isOfRow(letter.message) && other.message.offset <= letter.message.offset) {
                            return false;
                        }
                    }
                }
            }
            return true;
        }

        boolean offsetsHold() {
            for (Share share : shares) {
                if (share != null && !readOffsetsHold(share)) {
                    return false;
                }
            }
            return true;
        }

        private boolean readOffsetsHold(Share share) {
            int stable = share.partition.stableOffset();
            for (int offset = share.soughtTo; offset < share.committed; offset++) {
                Message message = share.partition.readableAt(offset, stable);
                Letter letter = message == null ? null : knownLetter(message);
                boolean isSettled = letter != null && (letter.firstDelivery > 0 || letter.waitsOrIsDead());
                if (message != null && !isSettled) {
                    return false;
                }
            }
            return true;
        }

        boolean sharesHold() {
            int least = MOST_PARTITIONS;
            int most = 0;
            for (Member member : members) {
                if (member != null) {
                    least = Math.min(least, targetCount(member));
                    most = Math.max(most, targetCount(member));
                }
            }
            for (Share share : shares) {
                if (share != null && !(isNoneOrMember(share.owner) && isNoneOrMember(share.target))) {
                    return false;
                }
            }
            return most - least <= 1;
        }

        private boolean isNoneOrMember(Member asked) {
            if (asked == null) {
                return true;
            }
            for (Member member : members) {
                if (member == asked) {
                    return true;
                }
            }
            return false;
        }

        boolean handsHold() {
            for (Member member : members) {
                if (member != null && !handHolds(member)) {
                    return false;
                }
            }
            return true;
        }

        private boolean handHolds(Member member) {
            for (int i = 0; i < member.hand.size; i++) {
                Letter letter = member.hand.get(i);
                Share share = letter == null ? null : shareAt(letter.message.partition.number);
                if (share == null || share.owner != member) {
                    return false;
                }
            }
            return member.hand.size <= member.credits;
        }
    }
}
