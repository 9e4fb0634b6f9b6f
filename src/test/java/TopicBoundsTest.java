/** Promises 1 to 8 and the terms 'Topics, partitions, replicas': a test for each sentence that names a boundary. */
public final class TopicBoundsTest {
    private static final int MIN = Integer.MIN_VALUE;
    private static final int MAX = Integer.MAX_VALUE;
    private static final int NONE = -1;
    private final Check check = new Check();

    public static void main(String[] args) throws ReflectiveOperationException {
        TopicBoundsTest tests = new TopicBoundsTest();
        tests.check.runAll(tests);
    }

    private Run run(String about) {
        return new Run(check, about);
    }

    /** One partition with three replicas, all in sync, on brokers 0 to 2; two producers; nothing is copied in ticks. */
    private Run threeReplicas(String about) {
        return run(about).make("topic", 1, 3, 0).make("producer").make("producer").make("speed", 0);
    }

    /** A compacted partition with one replica, and two producers. */
    private Run compacted(String about) {
        return run(about).make("topic", 1, 1, 1).make("producer").make("producer");
    }

    // ======== promise 1

    private void aNewObjectIsEmpty() {
        Run run = run("promise 1: no topics, producers, groups; all brokers are live; tick 0");
        run.dueEach(new int[] {0, 0, 0, 0, 0, 0, 7, 0, 0, 0}, "count").due(17, "digest");
        run.dueEach(new int[] {1, 1, 1, 1, 1, 1, 1}, "audit").due(2, "speed", 2).due(1, "tick", 1);
    }

    private void onANewObjectNoNumberNamesAnything() {
        Run run = run("promise 1: no topics, producers, groups: each call that needs one is refused");
        run.noPlace("retain", 0, 1, 1).noPlace("compact", 0).noPlace("quota", 0, 1).noPlace("send", 0, 0, 1, 1);
        run.noPlace("sendSome", 0, 0, 1, 1).noPlace("sendLater", 0, 0, 1, 1, 1).noPlace("resend", 0, 0);
        run.noPlace("begin", 0).noPlace("attach", 0, 0, 0).noPlace("commit", 0).noPlace("abort", 0);
        run.noPlace("join", 0).noPlace("leave", 0, 0).noPlace("beat", 0, 0).noPlace("credits", 0, 0, 1);
        run.noPlace("read", 0, 0).noPlace("done", 0, 0, 0).noPlace("retry", 0, 0, 0).noPlace("commitOffsets", 0, 0);
        run.noPlace("seek", 0, 0, 0).noPlace("message", 0, 0).noPlace("at", 0, 0).noPlace("partition", 0, 0);
        run.noPlace("replica", 0, 0, 0).noPlace("offsetAt", 0, 0).noPlace("value", 0, 0).noPlace("sum", 0, 0, 0, 9);
        run.noPlace("share", 0, 0, 0).noPlace("member", 0, 0, 0).noPlace("hand", 0, 0, 0, 0).noPlace("waits", 0, 0, 0);
        run.noPlace("dead", 0, 0).noPlace("seen", 0, 0).noPlace("ofGroup", 0, 0).bad("group", 1);
    }

    /** All there can be: 3 topics, 9 partitions, 4 producers, 3 groups, members 8 to 11 of group 0, 150 messages. */
    private Run fullObject(String about) {
        Run run = run(about).times(3, "topic", 3, 3, 1).times(4, "producer").times(3, "group", 7);
        for (int member = 0; member < 8; member++) {
            run.make("join", 0).make("leave", 0, member);
        }
        return run.times(4, "join", 0).times(150, "sendLater", 3, 2, 2, 1, 50);
    }

    private void onAFullObjectTheGreatestNumbersAreTaken() {
        Run run = fullObject("the greatest numbers there can be");
        run.due(NONE, "value", 2, 2).due(2, "partition", 8, 0).due(0, "replica", 8, 2, 0).due(0, "compact", 8);
        run.due(0, "begin", 3).due(0, "attach", 3, 0, 11).due(0, "resend", 3, 8).due(2, "beat", 0, 11).due(8, "message", 149, 3);
        run.due(0, "seen", 2, 149).due(0, "ofGroup", 2, 0).due(0, "seek", 2, 8, 60).due(NONE, "share", 2, 8, 0);
    }

    private void onAFullObjectNoNumberIsAboveTheGreatest() {
        Run run = fullObject("no such topic, partition or replica above the greatest number there can be");
        run.noPlace("retain", 3, 1, 1).noPlace("send", 3, 3, 1, 1).noPlace("sendSome", 3, 3, 1, 1);
        run.noPlace("sendLater", 3, 3, 1, 1, 1).noPlace("value", 3, 1).noPlace("sum", 3, 1, 0, 9);
        run.noPlace("compact", 9).noPlace("resend", 3, 9).noPlace("seek", 2, 9, 0).noPlace("at", 9, 0);
        run.noPlace("partition", 9, 0).noPlace("replica", 9, 0, 0).noPlace("replica", 8, 3, 0).noPlace("offsetAt", 9, 0);
        run.noPlace("share", 2, 9, 0).noPlace("message", 150, 0).noPlace("seen", 2, 150);

        Run makers = fullObject("no such producer above the greatest number there can be");
        makers.noPlace("quota", 4, 1).noPlace("send", 4, 2, 1, 1).noPlace("sendSome", 4, 2, 1, 1).noPlace("begin", 4);
        makers.noPlace("sendLater", 4, 2, 1, 1, 1).noPlace("resend", 4, 8).noPlace("attach", 4, 0, 11);
        makers.noPlace("commit", 4).noPlace("abort", 4);

        for (int[] wrong : new int[][] {{3, 11}, {0, 12}}) {
            Run readers = fullObject("no such group, or member in it, above the greatest number: " + wrong[0] + ", " + wrong[1]);
            for (String name : new String[] {"leave", "beat", "read", "commitOffsets"}) {
                readers.noPlace(name, wrong);
            }
            readers.noPlace("attach", 3, wrong[0], wrong[1]).noPlace("credits", wrong[0], wrong[1], 3);
            readers.noPlace("done", wrong[0], wrong[1], 0).noPlace("retry", wrong[0], wrong[1], 0);
            readers.noPlace("member", wrong[0], wrong[1], 0).noPlace("hand", wrong[0], wrong[1], 0, 0);
        }
        Run groups = fullObject("no such group above the greatest number there can be");
        groups.noPlace("join", 3).noPlace("seek", 3, 8, 0).noPlace("share", 3, 8, 0).noPlace("waits", 3, 0, 0);
        groups.noPlace("dead", 3, 0).noPlace("seen", 3, 0).noPlace("ofGroup", 3, 0);
    }

    private void onANewObjectAllBrokersAreLive() {
        Run run = run("promise 1: all brokers are live, and have nothing to lose, to copy or to lead");
        for (int broker = 0; broker <= 2; broker++) {
            run.state("restore", broker).due(0, "fetch", broker).due(0, "fail", broker).state("fetch", broker);
            run.due(0, "restore", broker);
        }
    }

    // ======== promise 2

    private void partitionsOfATopic() {
        Run run = run("promise 2: partitions: 1 to 3");
        run.badOutside(1, 3, 0, "topic", 1, 1, 0).due(0, "topic", 1, 1, 0).due(1, "count", 1).noPlace("partition", 1, 0);
        run.due(1, "topic", 3, 1, 0).due(4, "count", 1).due(1, "partition", 3, 0).noPlace("partition", 4, 0);
    }

    private void replicasOfATopic() {
        Run run = run("promise 2: replicas: 1 to 3");
        run.badOutside(1, 3, 1, "topic", 1, 1, 0).due(0, "topic", 1, 1, 0).due(1, "topic", 1, 3, 0);
        run.due(1, "partition", 0, 2).noPlace("replica", 0, 1, 0).due(7, "partition", 1, 2).due(0, "replica", 1, 2, 0);
        run.noPlace("replica", 1, 3, 0);
    }

    private void threeTopics() {
        Run run = run("promise 2: IllegalStateException if there are 3 topics");
        run.due(0, "topic", 1, 1, 0).due(1, "topic", 1, 1, 0).due(2, "topic", 1, 1, 0).state("topic", 1, 1, 0);
        run.state("topic", 3, 3, 1).due(3, "count", 0).due(3, "count", 1);
    }

    private void aTopicNeedsAllBrokers() {
        for (int broker = 0; broker <= 2; broker++) {
            Run run = run("promise 2: IllegalStateException if a broker is not live: " + broker);
            run.make("fail", broker).state("topic", 1, 1, 0).state("topic", 3, 3, 1).due(0, "count", 0);
            run.make("restore", broker).due(0, "topic", 1, 1, 0);
        }
    }

    private void rangesComeAheadOfTheStateForATopic() {
        Run full = run("promise 2: the range comes first, with 3 topics");
        full.make("topic", 1, 1, 0).make("topic", 1, 1, 0).make("topic", 1, 1, 0);
        full.bad("topic", 0, 1, 0).bad("topic", 4, 1, 0).bad("topic", 1, 0, 0).bad("topic", 1, 4, 0);
        Run dead = run("promise 2: the range comes first, with a broker that is not live");
        dead.make("fail", 1).bad("topic", 0, 1, 0).bad("topic", 4, 1, 0).bad("topic", 1, 0, 0).bad("topic", 1, 4, 0);
    }

    private void ninePartitions() {
        Run run = run("Terms: at most 3 topics, with 1 to 3 partitions each, numbered in the order in which they came");
        run.make("topic", 3, 1, 0).make("topic", 3, 1, 1).make("topic", 3, 1, 0).due(9, "count", 1).make("producer");
        for (int partition = 0; partition < 9; partition++) {
            run.due(partition / 3, "partition", partition, 0);
            run.due(partition, "send", 0, partition / 3, partition % 3, 1).due(partition, "message", partition, 3);
        }
        run.noneOutside(0, 8, 0, "partition", 0, 0).due(8, "at", 8, 0).due(1, "offsetAt", 8, 1);
        run.due(0, "group", 4).due(NONE, "share", 0, 8, 0).noPlace("share", 0, 5, 0).noPlace("share", 0, 9, 0);
        run.make("join", 0).due(3, "beat", 0, 0).due(6, "read", 0, 0).due(7, "read", 0, 0).due(8, "read", 0, 0);
    }

    private void brokersOfReplicas() {
        Run run = run(
                "Terms: replica 0 is on the broker topic plus p, modulo 3; each further one on the next, behind 2 comes 0");
        run.make("topic", 3, 3, 0).make("topic", 3, 3, 0).make("topic", 3, 3, 0);
        int[] first = {0, 1, 2, 1, 2, 0, 2, 0, 1};
        int[] next = {1, 2, 0};
        for (int partition = 0; partition < 9; partition++) {
            run.due(first[partition], "replica", partition, 0, 0).due(next[first[partition]], "replica", partition, 1, 0);
            run.due(next[next[first[partition]]], "replica", partition, 2, 0);
        }
    }

    private void aNewPartition() {
        Run run = run(
                "Terms: offsets from 0 on; ends 0 at first; replica 0 leads at first; all are in the in-sync set at first");
        run.make("tick", 30).make("topic", 1, 3, 0).dueEach(new int[] {0, 0, 7, 0, 0, 0, 0, 0}, "partition", 0);
        for (int replica = 0; replica <= 2; replica++) {
            run.dueEach(new int[] {replica, 0, 30}, "replica", 0, replica);
        }
        run.make("producer").make("send", 0, 0, 1, 1).due(0, "message", 0, 4).due(0, "at", 0, 0).due(NONE, "at", 0, 1);
    }

    private void theHighWatermarkIsTheLeastEnd() {
        Run run = threeReplicas("Terms: the high watermark is the least end of the replicas in the in-sync set");
        run.make("send", 0, 0, 1, 1).due(1, "fetch", 2).make("send", 0, 0, 1, 1).due(2, "fetch", 1)
                .make("send", 0, 0, 1, 1);
        run.due(3, "replica", 0, 0, 1).due(2, "replica", 0, 1, 1).due(1, "replica", 0, 2, 1).due(1, "partition", 0, 3);
        run.make("fail", 2).due(2, "partition", 0, 3).make("fail", 1).due(3, "partition", 0, 3).due(3, "partition", 0, 6);
        run.make("fail", 0).due(3, "partition", 0, 3).due(3, "partition", 0, 6);
    }

    private void aLeadersEndIsAtMost60() {
        Run run = run("Terms: a leader's end is at most 60");
        run.make("topic", 1, 1, 0).times(4, "producer");
        for (int producer = 0; producer <= 2; producer++) {
            run.make("quota", producer, 20).times(producer < 2 ? 20 : 19, "send", producer, 0, 1, 1);
        }
        run.due(59, "partition", 0, 6).due(59, "send", 3, 0, 1, 1).due(59, "message", 59, 4).due(60, "partition", 0, 6);
        run.state("send", 3, 0, 1, 1).due(0, "sendSome", 3, 0, 12, 1).make("sendLater", 3, 0, 1, 1, 1).make("tick", 1);
        run.due(60, "partition", 0, 6).due(60, "partition", 0, 3).due(60, "partition", 0, 4).due(60, "partition", 0, 7);
        run.due(59, "at", 0, 59).due(NONE, "at", 0, 60).due(1, "value", 0, 1).due(60, "sum", 0, 1, 0, 0);
    }

    // ======== promise 3

    private void retainOfNoTopic() {
        Run run = run("promise 3: IndexOutOfBoundsException if there is no such topic");
        run.make("topic", 1, 1, 0).make("topic", 1, 1, 0).noneOutside(0, 1, 0, "retain", 0, 5, 5);
        run.due(999, "retain", 0, 5, 5).due(999, "retain", 1, 6, 6).due(5, "retain", 0, 5, 5);
    }

    private void agesOfRetention() {
        Run run = run("promise 3: age: 0 to 999");
        run.make("topic", 1, 1, 0).make("producer").times(2, "send", 0, 0, 1, 1).badOutside(0, 999, 1, "retain", 0, 5, 1);
        run.due(999, "retain", 0, 0, 5);
        run.due(0, "retain", 0, 999, 5).due(999, "retain", 0, 1, 5).badOutside(0, 999, 1, "retain", 0, 5, 5);
    }

    private void sizesOfRetention() {
        Run run = run("promise 3: size: 1 to 60");
        run.make("topic", 1, 1, 0).make("producer").times(2, "send", 0, 0, 1, 1).badOutside(1, 60, 2, "retain", 0, 5, 5);
        run.due(999, "retain", 0, 5, 1);
        run.due(5, "retain", 0, 6, 60).due(6, "retain", 0, 5, 5);
    }

    private void retentionAtFirst() {
        Run run = run("promise 3: at first 999 and 60");
        run.make("topic", 1, 1, 0).times(3, "producer");
        for (int producer = 0; producer <= 2; producer++) {
            run.make("quota", producer, 20).times(20, "send", producer, 0, 1, 1);
        }
        run.times(33, "tick", 30).make("tick", 9).due(60, "partition", 0, 7).due(0, "partition", 0, 5);
        run.make("tick", 1).due(0, "partition", 0, 7).due(60, "partition", 0, 5).due(999, "retain", 0, 1, 1);
    }

    private void retainOfACompactedTopic() {
        Run run = run("promise 3: IllegalStateException if the topic is compacted");
        run.make("topic", 1, 1, 1).make("topic", 1, 1, 0).state("retain", 0, 0, 1).state("retain", 0, 999, 60);
        run.due(999, "retain", 1, 0, 1);
    }

    private void whichComesFirstInRetain() {
        Run run = run("promise 3: no such topic comes first, then the range, then a compacted topic");
        run.make("topic", 1, 1, 1).noPlace("retain", 1, -1, 0).noPlace("retain", -1, 1000, 61).noPlace("retain", 1, 1, 1);
        run.bad("retain", 0, -1, 1).bad("retain", 0, 1000, 1).bad("retain", 0, 1, 0).bad("retain", 0, 1, 61);
    }

    // ======== promise 4

    private void compactOfNoPartition() {
        Run run = run("promise 4: IndexOutOfBoundsException if there is no such partition");
        run.make("topic", 2, 1, 1).noneOutside(0, 1, 0, "compact", 0).due(0, "compact", 0).due(0, "compact", 1);
    }

    private void compactOfATopicThatIsNot() {
        Run run = run("promise 4: IllegalStateException if its topic is not compacted");
        run.make("topic", 1, 1, 0).make("topic", 1, 1, 1).make("producer").times(2, "send", 0, 0, 1, 1);
        run.state("compact", 0).due(0, "compact", 1).due(2, "partition", 0, 7);
    }

    private void compactOfAnEmptyPartition() {
        Run run = compacted("promise 4: returns how many were REMOVED: 0 of an empty partition");
        run.due(0, "compact", 0).due(0, "partition", 0, 6).make("send", 0, 0, 1, 1).due(0, "compact", 0);
        run.due(1, "partition", 0, 7);
    }

    private void compactOfAFullPartition() {
        Run run = compacted(
                "promise 4: all but the last one of each key are REMOVED: of a full log of one key all but one");
        run.make("producer").make("quota", 0, 20).make("quota", 1, 20).make("quota", 2, 20);
        run.times(20, "send", 0, 0, MIN, 1).times(20, "send", 1, 0, MIN, 2).times(20, "send", 2, 0, MIN, 3);
        run.due(59, "compact", 0).due(1, "partition", 0, 7).due(60, "partition", 0, 6).due(59, "at", 0, 59);
        run.due(0, "partition", 0, 5).due(3, "value", 0, MIN).due(3, "sum", 0, MIN, 0, 0).due(0, "compact", 0);
    }

    private void compactKeepsTheLastOfEachKey() {
        Run run = compacted("promise 4: all but the last one of each key, the keys MIN, -1, 0 and MAX being four");
        int[] keys = {MIN, -1, 0, MAX};
        for (int i = 0; i < 8; i++) {
            run.due(i, "send", 0, 0, keys[i % 4], i);
        }
        run.due(4, "compact", 0);
        for (int i = 0; i < 4; i++) {
            run.due(3, "message", i, 0).due(i, "message", i, 4).due(1, "message", i + 4, 0)
                    .due(i + 4, "value", 0, keys[i]);
        }
    }

    private void compactOfAKeyWithoutAValue() {
        Run run = compacted("promise 4: so is that one, if it has no value and was appended more than 20 ticks ago");
        run.make("tick", 1).make("send", 0, 0, 1, NONE).make("send", 0, 0, 2, 0).make("tick", 20).due(0, "compact", 0);
        run.due(1, "message", 0, 0).make("tick", 1).due(1, "compact", 0).due(3, "message", 0, 0).due(1, "message", 1, 0);
        run.make("tick", 30).due(0, "compact", 0).due(NONE, "value", 0, 1).due(0, "value", 0, 2);
    }

    private void compactOfMessagesWithoutValuesThatAreNotLast() {
        Run run = compacted("promise 4: one without a value that is not the last of its key goes whatever its age");
        run.make("send", 0, 0, 1, NONE).make("send", 0, 0, 1, NONE).due(1, "compact", 0).due(3, "message", 0, 0);
        run.due(1, "message", 1, 0).make("tick", 21).make("send", 0, 0, 1, 5).due(1, "compact", 0).due(5, "value", 0, 1);
    }

    private void compactOfAbortedMessages() {
        Run run = compacted(
                "promise 4: of its STORED messages below the stable offset, those that are ABORTED are REMOVED");
        run.make("begin", 0).make("send", 0, 0, 1, 1).make("abort", 0).make("begin", 1).make("send", 1, 0, 2, 2);
        run.make("begin", 0).make("send", 0, 0, 1, 3).make("abort", 0).due(1, "partition", 0, 4).due(1, "compact", 0);
        run.due(3, "message", 0, 0).due(1, "message", 1, 0).due(1, "message", 2, 0).make("commit", 1)
                .due(1, "compact", 0);
        run.due(3, "message", 2, 0).due(2, "value", 0, 2);
    }

    private void compactEndsAtTheHighWatermark() {
        Run run = run("promise 4: a message at the stable offset is neither REMOVED nor the last one of its key");
        run.make("topic", 1, 2, 1).make("producer").make("speed", 0).times(2, "send", 0, 0, 1, 1).due(2, "fetch", 1);
        run.make("send", 0, 0, 1, 1).make("begin", 0).make("send", 0, 0, 1, 1).make("abort", 0).due(1, "compact", 0);
        run.due(3, "message", 0, 0).due(1, "message", 1, 0).due(1, "message", 3, 0).due(2, "fetch", 1)
                .due(2, "compact", 0);
        run.due(1, "message", 2, 0).due(3, "message", 3, 0);
    }

    private void compactWithoutALeader() {
        Run run = compacted("promise 4: it asks for no leader");
        run.times(2, "send", 0, 0, 1, 1).make("fail", 0).due(1, "compact", 0).due(1, "partition", 0, 7);
        run.due(2, "partition", 0, 6);
    }

    // ======== promise 5

    private void failOfNoBroker() {
        Run run = run("promise 5: broker: 0 to 2");
        run.make("topic", 1, 1, 0).noneOutside(0, 2, 0, "fail", 0).due(0, "fail", 0).due(0, "fail", 2).due(2, "count", 6);
    }

    private void failOfABrokerThatIsNotLive() {
        Run run = run("promise 5: IllegalStateException if it is not live");
        run.make("topic", 1, 1, 0).make("fail", 1).state("fail", 1).make("fail", 0).state("fail", 0).state("fail", 1);
        run.make("restore", 1).due(0, "fail", 1).make("fail", 2).due(0, "count", 6).state("fail", 2);
    }

    private void noMessageIsCut() {
        Run run = threeReplicas(
                "promise 5: returns how many messages were cut: 0 of an empty log, and if the next one has all");
        run.due(0, "fail", 0).due(1, "partition", 0, 1).make("restore", 0).make("fetch", 0).make("send", 0, 0, 1, 1);
        run.due(1, "fetch", 2).due(1, "fetch", 0).due(0, "fail", 2).due(1, "message", 0, 0).due(0, "fail", 1);
        run.due(0, "partition", 0, 1).due(1, "partition", 0, 6).due(0, "count", 8);
    }

    private void allMessagesAreCut() {
        Run run = run("promise 5: returns how many messages were cut: all of a full log");
        run.make("topic", 1, 2, 0).make("speed", 0).times(3, "producer");
        for (int producer = 0; producer <= 2; producer++) {
            run.make("quota", producer, 20).times(20, "send", producer, 0, 1, 1);
        }
        run.due(60, "fail", 0).due(60, "count", 8).due(0, "partition", 0, 6).due(0, "partition", 0, 7);
        run.due(NONE, "at", 0, 0).due(NONE, "at", 0, 59).due(0, "offsetAt", 0, 0);
    }

    private void messagesFromTheNewEndOnAreCut() {
        Run run = threeReplicas(
                "Terms: all messages with offsets from the new leader's end on are cut: CUT, and have no offset");
        run.make("send", 0, 0, 1, 1).make("send", 0, 0, 1, 1).due(2, "fetch", 1).make("tick", 1).make("send", 0, 0, 1, 1);
        run.make("send", 0, 0, 1, 1).due(4, "fetch", 2).due(2, "fail", 0).due(1, "message", 1, 0).due(1, "message", 1, 4);
        run.due(2, "message", 2, 0).due(NONE, "message", 2, 4).due(1, "message", 2, 7).due(2, "message", 3, 0);
        run.due(NONE, "at", 0, 2).due(NONE, "at", 0, 3).due(2, "partition", 0, 6).due(2, "partition", 0, 7);
    }

    private void whatWasCutStandsNowhere() {
        Run run = threeReplicas("Terms: CUT messages have no offset, also if others are sent again to their places");
        run.make("send", 1, 0, 1, 1).make("send", 0, 0, 1, 1).make("send", 0, 0, 1, 1).due(3, "fail", 0);
        run.due(2, "resend", 0, 0).due(1, "at", 0, 0).due(2, "at", 0, 1).due(NONE, "at", 0, 2).due(2, "partition", 0, 7);
        run.due(2, "partition", 0, 6).due(2, "offsetAt", 0, 1).due(1, "audit", 0);
    }

    private void theLeastOfTheOthersLeads() {
        Run run = threeReplicas("Terms: the one of the others with the least number leads: of two, of one, and around");
        run.due(0, "fail", 0).due(1, "partition", 0, 1).due(6, "partition", 0, 2).make("restore", 0).make("fetch", 0);
        run.due(0, "fail", 1).due(0, "partition", 0, 1).due(5, "partition", 0, 2).due(0, "fail", 0);
        run.due(2, "partition", 0, 1).due(4, "partition", 0, 2);
    }

    private void withoutOthersThereIsNoLeader() {
        Run run = threeReplicas(
                "Terms: if there are no others, it has no leader from then on, and the set stays that replica alone");
        run.make("fail", 1).make("fail", 2).make("send", 0, 0, 1, 1).make("restore", 1).due(1, "partition", 0, 2);
        run.due(0, "fail", 0).due(NONE, "partition", 0, 1).due(1, "partition", 0, 2).due(1, "partition", 0, 6);
        run.due(1, "message", 0, 0).due(1, "message", 0, 8).due(1, "partition", 0, 3).state("send", 0, 0, 1, 1);
        run.due(0, "fetch", 1).due(0, "fail", 1).due(1, "partition", 0, 2).due(0, "restore", 2).due(1, "restore", 0);
    }

    private void aFollowerLeavesTheSet() {
        Run run = threeReplicas("Terms: if that replica is not the leader, it leaves the in-sync set, if it is in it");
        run.make("send", 0, 0, 1, 1).due(0, "fail", 1).due(5, "partition", 0, 2).due(0, "partition", 0, 1);
        run.due(1, "partition", 0, 6).make("restore", 1).due(0, "fail", 1).due(5, "partition", 0, 2).due(0, "fail", 2);
        run.due(1, "partition", 0, 2).due(1, "partition", 0, 3);
    }

    private void endsOnLiveBrokersAreLoweredAtOnce() {
        Run run = threeReplicas(
                "Terms: each other replica's end becomes the new leader's end, if it is more, on live brokers at once");
        run.times(2, "send", 0, 0, 1, 1).due(2, "fetch", 1).make("send", 0, 0, 1, 1).due(3, "fetch", 2);
        run.due(1, "fail", 0).due(2, "replica", 0, 1, 1).due(2, "replica", 0, 2, 1).due(2, "replica", 0, 0, 1);
        run.times(2, "send", 1, 0, 1, 1).due(2, "replica", 0, 2, 1).due(2, "fetch", 2);

        Run less = threeReplicas("Terms: an end that is less stays");
        less.make("send", 0, 0, 1, 1).due(1, "fetch", 2).make("send", 0, 0, 1, 1).due(2, "fetch", 1)
                .make("send", 0, 0, 1, 1);
        less.due(1, "fail", 0).due(1, "replica", 0, 2, 1).due(1, "partition", 0, 3).due(2, "partition", 0, 6);
    }

    private void endsOnOtherBrokersAreLoweredWhenRestored() {
        Run run = threeReplicas(
                "Terms: of those on brokers that are not live when restored, the least of the ends of new leaders counting");
        run.times(2, "send", 0, 0, 1, 1).due(2, "fetch", 1).times(3, "send", 0, 0, 1, 1).due(5, "fetch", 2);
        run.make("fail", 2).due(3, "fail", 0).due(2, "replica", 0, 2, 1).due(2, "replica", 0, 0, 1);
        run.times(6, "send", 1, 0, 1, 1).make("restore", 0).due(6, "fetch", 0).make("send", 1, 0, 1, 1);
        run.due(1, "fail", 1).due(0, "partition", 0, 1).due(8, "partition", 0, 6).due(2, "replica", 0, 2, 1);
        run.due(8, "replica", 0, 1, 1).due(0, "restore", 2).due(2, "replica", 0, 2, 1).due(6, "fetch", 2);
        run.due(0, "restore", 1).due(8, "replica", 0, 1, 1).due(0, "fetch", 1).due(1, "audit", 0);
    }

    private void endsOnOtherBrokersThatAreLess() {
        Run run = threeReplicas("Terms: an end on a broker that is not live stays, if it is not more");
        run.make("send", 0, 0, 1, 1).due(1, "fetch", 2).make("fail", 2).make("send", 0, 0, 1, 1).due(2, "fetch", 1);
        run.make("send", 0, 0, 1, 1).due(1, "fail", 0).due(1, "replica", 0, 2, 1).due(2, "replica", 0, 0, 1);
        run.make("restore", 2).due(1, "replica", 0, 2, 1).due(2, "partition", 0, 6);
    }

    private void failOfSeveralPartitions() {
        Run run = run("promise 5: each partition with a replica on it: led, followed, or none there");
        run.make("topic", 3, 2, 0).make("producer").make("speed", 0);
        run.times(2, "send", 0, 0, 0, 1).times(3, "send", 0, 0, 1, 1).times(1, "send", 0, 0, 2, 1).due(2, "fail", 0);
        run.due(1, "partition", 0, 1).due(0, "partition", 1, 1).due(3, "partition", 1, 2).due(0, "partition", 2, 1);
        run.due(1, "partition", 2, 2).due(1, "partition", 2, 3).due(3, "fail", 1).due(NONE, "partition", 0, 1);
    }

    // ======== promise 6

    private void restoreOfNoBroker() {
        Run run = run("promise 6: broker: 0 to 2");
        run.make("topic", 1, 1, 0).noneOutside(0, 2, 0, "restore", 0).make("fail", 0).make("fail", 2);
        run.noneOutside(0, 2, 0, "restore", 0).due(1, "restore", 0).due(0, "restore", 2).due(7, "count", 6);
    }

    private void restoreOfABrokerThatIsLive() {
        Run run = run("promise 6: IllegalStateException if it is live");
        run.make("topic", 1, 1, 0).state("restore", 0).make("fail", 0).state("restore", 1).due(1, "restore", 0);
        run.state("restore", 0);
    }

    private void howManyLeadAgain() {
        Run run = run("promise 6: returns of how many partitions it leads again: none, and all that there are");
        run.make("topic", 3, 1, 0).make("topic", 3, 1, 0).make("topic", 3, 1, 0).make("fail", 1).due(3, "restore", 1);
        Run none = run("promise 6: it leads none again if others do");
        none.make("topic", 3, 3, 0).make("fail", 0).due(0, "restore", 0).due(1, "partition", 0, 1);
    }

    private void aRestoredReplicaStaysOutside() {
        Run run = run("Terms: otherwise it stays outside the in-sync set until it joins it");
        run.make("topic", 1, 2, 0).make("producer").make("fail", 1).make("restore", 1).due(1, "partition", 0, 2);
        run.make("send", 0, 0, 1, 1).due(1, "partition", 0, 3).due(0, "replica", 0, 1, 1).make("tick", 1);
        run.due(3, "partition", 0, 2).due(1, "replica", 0, 1, 1);
    }

    // ======== promise 7

    private void fetchOfNoBroker() {
        Run run = run("promise 7: broker: 0 to 2");
        run.make("topic", 1, 3, 0).noneOutside(0, 2, 0, "fetch", 0).due(0, "fetch", 0).due(0, "fetch", 2);
    }

    private void fetchOfABrokerThatIsNotLive() {
        Run run = threeReplicas("promise 7: IllegalStateException if it is not live");
        run.make("send", 0, 0, 1, 1).make("fail", 2).state("fetch", 2).due(1, "fetch", 1).make("restore", 2)
                .due(1, "fetch", 2);
    }

    private void fetchCopiesAll() {
        Run run = run("promise 7: returns by how much their ends became more, all together: 0 with nothing to copy");
        run.make("topic", 2, 3, 0).make("producer").make("speed", 0).make("quota", 0, 20).due(0, "fetch", 2);
        run.times(12, "send", 0, 0, 0, 1).times(8, "send", 0, 0, 1, 1).due(20, "fetch", 2).due(0, "fetch", 2);
        run.due(12, "replica", 0, 2, 1).due(8, "replica", 1, 1, 1).due(8, "fetch", 0).due(12, "fetch", 1);
        run.due(12, "partition", 0, 3).due(8, "partition", 1, 3);
    }

    private void fetchOfLeadersAndWithoutLeaders() {
        Run run = run("promise 7: all replicas that are not leaders, in partitions that have leaders");
        run.make("topic", 1, 2, 0).make("producer").make("tick", 2).make("send", 0, 0, 1, 1).due(0, "fetch", 0);
        run.due(0, "replica", 0, 0, 2).make("tick", 1).due(3, "replica", 0, 1, 2).make("fail", 1).make("fail", 0);
        run.make("restore", 1).make("tick", 1).due(0, "fetch", 1).due(3, "replica", 0, 1, 2).due(1, "partition", 0, 2);
    }

    private void fetchJoins() {
        Run run = threeReplicas(
                "promise 7: their caught-up ticks are now, and they join the in-sync sets, with nothing to copy, too");
        run.make("fail", 2).make("fail", 1).make("restore", 2).make("restore", 1).make("send", 0, 0, 1, 1);
        run.due(1, "partition", 0, 2).due(1, "fetch", 1).due(3, "partition", 0, 2).make("tick", 5).due(1, "fetch", 2);
        run.due(7, "partition", 0, 2).due(5, "replica", 0, 2, 2).due(0, "fetch", 1).due(5, "replica", 0, 1, 2);
    }

    // ======== promise 8

    private void speeds() {
        Run run = run("promise 8: messages: 0 to 9; at first 2");
        run.badOutside(0, 9, 0, "speed", 0).due(2, "speed", 0).due(0, "speed", 9).badOutside(0, 9, 0, "speed", 0);
        run.due(9, "speed", 2);
    }
}
