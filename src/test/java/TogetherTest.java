/**
 * Sentences of the document where one part meets another: offsets that are not in the order of numbers, leaders that
 * are not replica 0, brokers that fail twice, and several groups, members, producers and topics side by side.
 */
public final class TogetherTest {
    private static final int NONE = -1;
    private final Check check = new Check();

    public static void main(String[] args) throws ReflectiveOperationException {
        TogetherTest tests = new TogetherTest();
        tests.check.runAll(tests);
    }

    private Run run(String about) {
        return new Run(check, about);
    }

    private Run reads(Run run, int group, int member, int... messages) {
        for (int message : messages) {
            run.due(message, "read", group, member);
        }
        return run;
    }

    // ======== offsets and numbers

    /** In tick 2, one partition has message 1 at the offset 0, of tick 0, and message 0 at 1, of tick 2. */
    private Run delayed(String about, boolean isCompacted, int firstKey, int secondKey) {
        Run run = run(about).make("topic", 1, 1, isCompacted ? 1 : 0).make("producer").make("group", 1).make("join", 0);
        run.make("beat", 0, 0).due(0, "sendLater", 0, 0, firstKey, 10, 2).due(1, "send", 0, 0, secondKey, 20);
        return run;
    }

    private void valuesAreByOffsets() {
        Run run = delayed("promise 35: the last message of a key is that with the greatest offset", false, 1, 1);
        run.due(20, "value", 0, 1).make("tick", 2).due(1, "at", 0, 0).due(0, "at", 0, 1).due(10, "value", 0, 1);
        run.due(20, "sum", 0, 1, 0, 1).due(10, "sum", 0, 1, 1, 2).due(30, "sum", 0, 1, 0, 2);
        run.due(0, "offsetAt", 0, 0).due(1, "offsetAt", 0, 1).due(1, "offsetAt", 0, 2).due(2, "offsetAt", 0, 3);
    }

    private void compactionIsByOffsets() {
        Run run = delayed("promise 4: the last one of a key is that with the greatest offset", true, 1, 1);
        run.make("tick", 2).due(1, "compact", 0).due(3, "message", 1, 0).due(1, "message", 0, 0).due(10, "value", 0, 1);
        run.due(NONE, "at", 0, 0).due(1, "offsetAt", 0, 0).due(1, "partition", 0, 7).due(0, "partition", 0, 5);
    }

    private void retentionIsByOffsets() {
        Run size = delayed("Ticks (4): the first STORED message is that with the least offset: size", false, 1, 1);
        size.make("retain", 0, 999, 1).make("tick", 2).due(3, "message", 1, 0).due(1, "message", 0, 0)
                .due(1, "partition", 0, 5);
        Run age = delayed("Ticks (4): the first STORED message is that with the least offset: age", false, 1, 1);
        age.make("retain", 0, 1, 60).make("tick", 1).due(1, "message", 1, 0).make("tick", 1).due(3, "message", 1, 0);
        age.due(1, "message", 0, 0).make("tick", 1).due(1, "message", 0, 0).make("tick", 1).due(3, "message", 0, 0)
                .due(2, "partition", 0, 5);
    }

    private void membersReadByOffsets() {
        Run run = delayed("To read: the next message is that with the next offset", false, 1, 2).make("tick", 2);
        run.due(2, "share", 0, 0, 4);
        reads(run, 0, 0, 1).due(1, "share", 0, 0, 3);
        reads(run, 0, 0, 0, NONE).due(2, "share", 0, 0, 3).due(1, "hand", 0, 0, 0, 0).due(0, "hand", 0, 0, 1, 0);
        run.due(1, "done", 0, 0, 1).due(1, "commitOffsets", 0, 0).due(1, "share", 0, 0, 2).due(1, "share", 0, 0, 4);
        run.due(0, "done", 0, 0, 0).due(1, "commitOffsets", 0, 0).due(2, "share", 0, 0, 2).due(1, "audit", 6);
    }

    private void rowsAreByOffsets() {
        Run run = delayed("To read: the first message of a row is that with the least offset", false, 1, 1);
        reads(run.make("tick", 2), 0, 0, 1, 0, NONE).due(4, "retry", 0, 0, 1).due(0, "member", 0, 0, 3);
        run.due(0, "waits", 0, 0, 0).due(2, "waits", 0, 0, 1).due(1, "waits", 0, 1, 0).due(4, "waits", 0, 1, 1);
        reads(run, 0, 0, NONE).make("tick", 1);
        reads(run, 0, 0, NONE).make("tick", 1);
        reads(run, 0, 0, 1, 0, NONE).due(1, "audit", 6);
    }

    private void rowsOfSeveralKeysAreByNumbers() {
        Run run = delayed("To read: of several with the least due tick the least message number", false, 1, 2);
        reads(run.make("tick", 2), 0, 0, 1, 0).due(4, "retry", 0, 0, 1).due(4, "retry", 0, 0, 0).make("tick", 2);
        reads(run, 0, 0, 0, 1, NONE);
    }

    private void sentAgainIsReadInItsNewOrder() {
        Run run = run("promise 15: what is sent again is read, found and counted at its new offset");
        run.make("topic", 1, 2, 0).make("producer").make("producer").make("speed", 0).due(0, "send", 0, 0, 1, 10);
        run.due(1, "fail", 0).due(1, "send", 1, 0, 1, 20).make("tick", 1).due(1, "resend", 0, 0).due(1, "at", 0, 0);
        run.due(0, "at", 0, 1).due(10, "value", 0, 1).due(1, "offsetAt", 0, 1).due(0, "offsetAt", 0, 0);
        run.make("group", 1).make("join", 0).make("beat", 0, 0);
        reads(run, 0, 0, 1, 0, NONE).due(1, "audit", 6);
    }

    // ======== leaders and replicas

    /** One partition with as many replicas; the broker of replica 0 failed and came back, and replica 1 leads. */
    private Run ledByTheSecond(String about, int replicas) {
        Run run = run(about).make("topic", 1, replicas, 0).make("producer").times(3, "send", 0, 0, 1, 1);
        return run.due(3, "fetch", 1).due(0, "fail", 0).due(0, "restore", 0).due(1, "partition", 0, 1);
    }

    private void replicaZeroFollows() {
        Run run = ledByTheSecond("Ticks (2), (3): each other replica copies and joins, replica 0, too", 2);
        run.due(2, "partition", 0, 2).times(3, "send", 0, 0, 1, 1).due(6, "partition", 0, 6).due(6, "partition", 0, 3);
        run.make("tick", 1).due(5, "replica", 0, 0, 1).due(0, "replica", 0, 0, 2).due(2, "partition", 0, 2);
        run.make("tick", 1).due(6, "replica", 0, 0, 1).due(2, "replica", 0, 0, 2).due(3, "partition", 0, 2);
        run.make("speed", 0).make("send", 0, 0, 1, 1).due(6, "partition", 0, 3).due(7, "partition", 0, 6);
        run.make("tick", 3).due(3, "partition", 0, 2).make("tick", 1).due(2, "partition", 0, 2);
        run.due(7, "partition", 0, 3).due(2, "replica", 0, 0, 2).due(0, "replica", 0, 1, 2);
    }

    private void replicaZeroFetches() {
        Run run = ledByTheSecond("promise 7: all replicas that are not leaders copy, replica 0, too", 2);
        run.times(3, "send", 0, 0, 1, 1).make("tick", 1).due(0, "fetch", 1).due(1, "fetch", 0).due(3, "partition", 0, 2);
        run.due(6, "replica", 0, 0, 1).due(1, "replica", 0, 0, 2).due(0, "replica", 0, 1, 2).due(0, "fail", 1);
        run.due(0, "partition", 0, 1).due(6, "partition", 0, 6).due(1, "partition", 0, 2);
    }

    private void theCaughtUpTickOfWhoeverLeads() {
        Run run = ledByTheSecond("the caught-up tick of a replica that leads stays, whichever that is", 2);
        run.make("tick", 5).due(5, "replica", 0, 0, 2).due(0, "replica", 0, 1, 2).due(0, "fail", 1).due(0, "restore", 1);
        run.make("tick", 2).due(5, "replica", 0, 0, 2).due(7, "replica", 0, 1, 2);
    }

    private void aLeaderIsBackBehindOthers() {
        Run run = run("When a broker fails: the last of the in-sync set leads again, whichever replica that is");
        run.make("topic", 1, 3, 0).make("producer").make("speed", 0).times(2, "send", 0, 0, 1, 1).due(2, "fetch", 2);
        run.due(0, "fail", 1).due(0, "fail", 0).due(2, "partition", 0, 1).due(4, "partition", 0, 2).due(0, "fail", 2);
        run.due(NONE, "partition", 0, 1).due(4, "partition", 0, 2).due(2, "partition", 0, 6).due(2, "partition", 0, 3);
        run.due(0, "restore", 0).due(0, "restore", 1).due(NONE, "partition", 0, 1).due(0, "fetch", 0)
                .state("send", 0, 0, 1, 1);
        run.due(1, "restore", 2).due(2, "partition", 0, 1).due(2, "send", 0, 0, 1, 1).due(3, "fetch", 1);
        run.due(6, "partition", 0, 2).due(3, "partition", 0, 3);
    }

    private void endsAreLoweredOnce() {
        Run run = run("When a broker is restored: the end becomes less, if so told, and only then");
        run.make("topic", 1, 3, 0).make("producer").make("speed", 0).times(2, "send", 0, 0, 1, 1).due(2, "fetch", 1);
        run.times(3, "send", 0, 0, 1, 1).due(5, "fetch", 2).due(0, "fail", 2).due(3, "fail", 0);
        run.due(2, "replica", 0, 0, 1).due(2, "replica", 0, 2, 1).due(0, "restore", 2).due(0, "restore", 0);
        run.due(3, "resend", 0, 0).due(3, "fetch", 2).due(3, "fetch", 0).due(0, "fail", 2).due(5, "replica", 0, 2, 1);
        run.due(0, "restore", 2).due(5, "replica", 0, 2, 1).due(0, "fetch", 2).due(0, "fail", 0).due(0, "restore", 0);
        run.due(5, "replica", 0, 0, 1).due(0, "fetch", 0);
    }

    private void theLeastOfTheEndsMeanwhile() {
        Run run = run("When a broker fails: the least of the ends of new leaders meanwhile counting");
        run.make("topic", 1, 3, 0).make("producer").make("speed", 0).times(6, "send", 0, 0, 1, 1).due(6, "fetch", 2);
        run.due(0, "fail", 2).due(6, "fail", 0).due(0, "replica", 0, 2, 1).due(6, "resend", 0, 0).due(0, "restore", 0);
        run.due(6, "fetch", 0).due(0, "fail", 1).due(0, "partition", 0, 1).due(0, "replica", 0, 2, 1);
        run.due(6, "replica", 0, 1, 1).due(0, "restore", 2).due(0, "replica", 0, 2, 1).due(0, "restore", 1)
                .due(6, "replica", 0, 1, 1);
    }

    // ======== groups side by side

    private void groupsKnowNothingOfOneAnother() {
        Run run = run("Groups: rows, dead letters, hands and offsets are each group's own");
        run.make("topic", 1, 1, 0).make("producer").times(2, "group", 1).make("join", 0).make("join", 1);
        run.make("beat", 0, 0).make("beat", 1, 0).times(3, "send", 0, 0, 1, 1);
        reads(run, 0, 0, 0).due(2, "retry", 0, 0, 0);
        reads(run, 1, 0, 0, 1, 2).due(0, "ofGroup", 1, 3).due(1, "ofGroup", 0, 3).due(1, "seen", 1, 2);
        reads(run, 0, 0, NONE).due(3, "ofGroup", 0, 3).due(0, "seen", 0, 2).due(0, "share", 1, 0, 5);
        run.due(2, "done", 1, 0, 0).due(1, "commitOffsets", 1, 0).due(1, "share", 1, 0, 2).due(0, "share", 0, 0, 2);
        run.due(1, "leave", 0, 0).due(0, "seek", 0, 0, 2).due(0, "ofGroup", 0, 3).due(2, "member", 1, 0, 3);
        run.due(1, "share", 1, 0, 2).due(3, "share", 1, 0, 3).due(2, "ofGroup", 0, 0).due(1, "ofGroup", 1, 0);
        run.due(1, "done", 1, 0, 1).due(2, "retry", 1, 0, 2).due(1, "ofGroup", 1, 3).due(1, "audit", 6);
    }

    private void seekEmptiesOnePartitionOfOneGroup() {
        Run run = run("promise 29: all messages of the partition leave the rows of the group, no others");
        run.make("topic", 2, 1, 0).make("producer").times(2, "group", 1);
        for (int group = 0; group <= 1; group++) {
            run.make("join", group).make("beat", group, 0);
        }
        run.make("send", 0, 0, 0, 1).make("send", 0, 0, 1, 1);
        for (int group = 0; group <= 1; group++) {
            reads(run, group, 0, 0, 1).due(2, "retry", group, 0, 0).due(2, "retry", group, 0, 1);
        }
        run.due(2, "leave", 1, 0).due(0, "seek", 1, 1, 1).due(1, "ofGroup", 1, 3).due(0, "waits", 1, 0, 0);
        run.due(2, "ofGroup", 0, 3).due(1, "share", 1, 0, 5).due(0, "share", 1, 1, 5).due(1, "share", 0, 1, 5);
    }

    private void silentInOneGroup() {
        Run run = run("Ticks (5): in each group its own members are expelled");
        run.make("topic", 1, 1, 0).times(3, "group", 1).make("join", 0).make("join", 1).make("join", 2).make("join", 2);
        run.make("tick", 5).make("beat", 1, 0).make("beat", 2, 1).make("tick", 6).due(0, "ofGroup", 0, 1);
        run.due(1, "ofGroup", 1, 1).due(2, "ofGroup", 2, 1).due(2, "ofGroup", 0, 0).due(1, "ofGroup", 1, 0)
                .due(3, "ofGroup", 2, 0);
    }

    // ======== transactions, producers

    /** The groups 0 and 1 read the partitions 0 and 1; in group 1 member 1 owns partition 1, and has read message 0. */
    private Run secondOfTheSecond(String about) {
        Run run = run(about).make("topic", 2, 1, 0).times(2, "producer").times(2, "group", 1).make("join", 0);
        run.make("join", 1).make("join", 1).make("beat", 0, 0).make("beat", 1, 0).due(1, "beat", 1, 1);
        run.make("send", 0, 0, 1, 1);
        return reads(run, 1, 1, 0).due(0, "done", 1, 1, 0).make("begin", 1).due(1, "attach", 1, 1, 1);
    }

    private void placesOfAnotherGroupsMember() {
        Run run = secondOfTheSecond("promise 17: the places of this member of this group, and of no other");
        run.due(0, "commit", 1).due(1, "share", 1, 1, 2).due(0, "share", 1, 0, 2).due(0, "share", 0, 1, 2)
                .due(0, "share", 0, 0, 2);
        Run other = secondOfTheSecond("promise 18: the generation is that of the group that is attached");
        other.make("join", 0).make("leave", 0, 0).due(0, "commit", 1).due(1, "share", 1, 1, 2);
        Run own = secondOfTheSecond("promise 18: another generation of the group that is attached");
        own.make("join", 1).state("commit", 1).due(1, "attach", 1, 1, 1).due(0, "commit", 1).due(1, "share", 1, 1, 2);
        Run lost = secondOfTheSecond("promise 18: the member that is attached is gone, and another owns the partition");
        lost.due(1, "leave", 1, 1).due(2, "beat", 1, 0).state("commit", 1).due(1, "count", 7).due(0, "share", 1, 1, 2);
        Run placed = secondOfTheSecond("promise 17: places of another group's member in place of these");
        placed.due(2, "attach", 1, 0, 0).make("join", 1).due(0, "commit", 1).due(0, "share", 1, 1, 2);
        placed.due(0, "share", 0, 1, 2);
    }

    private void placesOfTwoProducers() {
        Run run = secondOfTheSecond("promise 17: each producer has places of its own");
        run.make("begin", 0).due(2, "attach", 0, 0, 0).due(0, "abort", 1).due(0, "share", 1, 1, 2).due(0, "commit", 0);
        run.due(0, "share", 1, 1, 2).make("begin", 1).due(0, "commit", 1).due(0, "share", 1, 1, 2);
    }

    private void transactionsOfTwoProducers() {
        Run run = run("Transactions: each producer has messages of its own, and one aborts without the other");
        run.make("topic", 1, 1, 0).times(2, "producer").make("begin", 1).due(1, "begin", 0).make("send", 0, 0, 1, 1);
        run.make("send", 1, 0, 2, 1).make("send", 0, 0, 1, 2).due(0, "partition", 0, 4).due(2, "abort", 0);
        run.due(3, "message", 0, 1).due(1, "message", 1, 1).due(3, "message", 2, 1).due(1, "partition", 0, 4);
        run.due(1, "commit", 1).due(2, "message", 1, 1).due(3, "message", 2, 1).due(3, "partition", 0, 4);
        run.due(2, "begin", 0).due(3, "begin", 1).due(0, "commit", 0).due(3, "message", 0, 1).due(0, "abort", 1)
                .due(2, "message", 1, 1);
    }

    private void openMessagesOfOnePartition() {
        Run run = run("Transactions: the stable offset is the least offset of an OPEN message in the partition, not in others");
        run.make("topic", 2, 1, 1).times(2, "producer").make("group", 1).make("join", 0).make("beat", 0, 0);
        run.make("begin", 0).make("send", 0, 0, 1, 1).times(2, "send", 1, 0, 0, 2).due(2, "partition", 0, 4);
        run.due(0, "partition", 1, 4).due(1, "message", 1, 8).due(2, "value", 0, 0).due(1, "compact", 0);
        reads(run, 0, 0, 2, NONE).due(0, "compact", 1).due(1, "commit", 0).due(1, "partition", 1, 4);
        reads(run, 0, 0, 0, NONE);
    }

    private void oneBreaksAndTheOtherDoesNot() {
        Run run = run("Transactions: if a message of it is cut, it is broken, and no other one is");
        run.make("topic", 1, 2, 0).make("topic", 1, 1, 0).times(3, "producer").make("speed", 0);
        run.make("begin", 0).make("begin", 1).make("begin", 2).make("send", 0, 0, 1, 1).make("send", 0, 1, 1, 1);
        run.make("send", 1, 1, 1, 1).due(1, "fail", 0).due(3, "message", 0, 1).due(3, "message", 1, 1);
        run.due(1, "message", 2, 1).state("commit", 0).due(1, "commit", 1).due(0, "commit", 2).due(2, "abort", 0);
    }

    private void cutMessagesOfOneProducer() {
        Run run = run("Messages, producers: PLAIN and CUT messages of a producer are in no other's way");
        run.make("topic", 2, 2, 0).times(2, "producer").make("speed", 0).make("send", 0, 0, 0, 1).make("send", 0, 0, 0, 2);
        run.due(2, "fail", 0).state("send", 0, 0, 0, 1).due(2, "send", 1, 0, 0, 3).due(3, "send", 0, 0, 1, 4);
        run.due(0, "resend", 1, 0).due(0, "resend", 0, 1).due(2, "count", 8).due(2, "resend", 0, 0).due(2, "at", 0, 0);
        run.due(0, "at", 0, 1).due(1, "at", 0, 2).due(4, "send", 0, 0, 0, 5).due(0, "count", 8);
    }

    private void quotasOfTwoProducers() {
        Run run = run("Messages, producers: what one producer has sent counts for it alone, in all topics");
        run.make("topic", 1, 1, 0).make("topic", 1, 1, 0).times(2, "producer").make("quota", 0, 2);
        run.make("send", 0, 0, 1, 1).make("send", 0, 1, 1, 1).state("send", 0, 0, 1, 1).state("send", 0, 1, 1, 1);
        run.times(10, "send", 1, 1, 1, 1).state("send", 1, 0, 1, 1).make("tick", 1).due(12, "send", 0, 0, 1, 1);
        run.due(13, "send", 1, 0, 1, 1);
    }

    // ======== topics side by side

    private void topicsKeepTheirOwn() {
        Run run = run("promise 3: ages and sizes are each topic's own");
        run.make("topic", 1, 1, 0).make("topic", 2, 1, 0).make("producer").make("quota", 0, 20);
        run.due(999, "retain", 0, 5, 2).due(999, "retain", 1, 7, 3).due(5, "retain", 0, 999, 2)
                .due(7, "retain", 1, 999, 3);
        run.times(4, "send", 0, 0, 0, 1).times(4, "send", 0, 1, 0, 1).times(2, "send", 0, 1, 1, 1).make("tick", 1);
        run.due(2, "partition", 0, 5).due(1, "partition", 1, 5).due(0, "partition", 2, 5).due(2, "partition", 0, 7);
        run.due(3, "partition", 1, 7).due(2, "partition", 2, 7);
    }

    private void keysOfTopics() {
        Run run = run("promise 35: a key of one topic is none of another, and goes to the topic's own partitions");
        run.make("topic", 1, 1, 0).make("topic", 3, 1, 1).make("topic", 2, 1, 0).make("producer");
        run.make("send", 0, 0, 5, 1).make("send", 0, 1, 5, 2).make("send", 0, 2, 5, 3).due(0, "message", 0, 3);
        run.due(3, "message", 1, 3).due(5, "message", 2, 3).due(1, "value", 0, 5).due(2, "value", 1, 5)
                .due(3, "value", 2, 5);
        run.due(3, "sum", 2, 5, 0, 0).due(NONE, "value", 1, 2).make("send", 0, 1, 5, 4).due(1, "compact", 3);
        run.due(0, "compact", 1).due(1, "value", 0, 5).due(4, "value", 1, 5).due(3, "value", 2, 5);
    }
}
