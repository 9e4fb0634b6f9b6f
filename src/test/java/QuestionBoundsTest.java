/** Promises 30 to 46: a test for each sentence that names a boundary. */
public final class QuestionBoundsTest {
    private static final int MIN = Integer.MIN_VALUE;
    private static final int MAX = Integer.MAX_VALUE;
    private static final int NONE = -1;
    private final Check check = new Check();

    public static void main(String[] args) throws ReflectiveOperationException {
        QuestionBoundsTest tests = new QuestionBoundsTest();
        tests.check.runAll(tests);
    }

    private Run run(String about) {
        return new Run(check, about);
    }

    /** Two partitions with two replicas, a producer; nothing is copied in ticks. */
    private Run logs(String about) {
        return run(about).make("topic", 2, 2, 0).make("producer").make("speed", 0);
    }

    /** One partition with one replica, a producer. */
    private Run oneLog(String about) {
        return run(about).make("topic", 1, 1, 0).make("producer");
    }

    /**
     * One partition and a group whose members 0 and 1 are there, of which member 0 owns it. Message 0 is a dead
     * letter, 1 and 2 wait, 3 and 4 are in the hand, 5 is not read.
     */
    private Run group(String about) {
        Run run = oneLog(about).make("group", 1).make("join", 0).make("join", 0).make("beat", 0, 0);
        for (int key = 0; key < 6; key++) {
            run.make("send", 0, 0, key, 1);
        }
        run.make("read", 0, 0).make("retry", 0, 0, 0).make("tick", 2).make("read", 0, 0).make("retry", 0, 0, 0);
        run.make("tick", 4).make("read", 0, 0).make("retry", 0, 0, 0).times(2, "read", 0, 0).make("retry", 0, 0, 1);
        return run.make("retry", 0, 0, 2).due(3, "read", 0, 0).due(4, "read", 0, 0);
    }

    // ======== promise 30

    private void whichMessage() {
        Run run = oneLog("promise 30: IndexOutOfBoundsException if there is no such message").noPlace("message", 0, 0);
        run.make("send", 0, 0, 1, 1).make("sendLater", 0, 0, 1, 1, 1).noneOutside(0, 1, 0, "message", 0, 0);
        run.due(1, "message", 0, 0).due(0, "message", 1, 0);
    }

    private void whatOfAMessage() {
        Run run = oneLog("promise 30: IllegalArgumentException if what is not 0 to 8").make("send", 0, 0, 5, 6);
        run.badOutside(0, 8, 1, "message", 0, 0).dueEach(new int[] {1, 0, 0, 0, 0, 5, 6, 0, 1}, "message", 0);
        run.noPlace("message", 1, 9).noPlace("message", -1, -1);
    }

    private void whereAMessageIs() {
        Run run = run(
                "promise 30: 0 WAITING to REMOVED; its offset NONE while WAITING or CUT; its tick NONE while WAITING");
        run.make("topic", 1, 2, 0).make("producer").make("speed", 0).make("tick", 7).make("send", 0, 0, 1, 1);
        run.make("sendLater", 0, 0, 1, 1, 9).due(1, "fetch", 1).make("send", 0, 0, 1, 1).due(1, "fail", 0);
        run.make("retain", 0, 0, 60).make("tick", 1).make("resend", 0, 0);
        run.dueEach(new int[] {3, 0, 0, 0, 0, 1, 1, 7, 0}, "message", 0);
        run.dueEach(new int[] {0, 0, 0, 0, NONE, 1, 1, NONE, 0}, "message", 1);
        run.dueEach(new int[] {1, 0, 0, 0, 1, 1, 1, 8, 1}, "message", 2);
        run.make("restore", 0).make("fetch", 0).make("tick", 1).make("send", 0, 0, 1, 1).due(1, "fail", 1);
        run.dueEach(new int[] {2, 0, 0, 0, NONE, 1, 1, 9, 0}, "message", 3);
    }

    private void whatAMessageIsOf() {
        Run run = oneLog("promise 30: 1 PLAIN to ABORTED").make("send", 0, 0, 1, 1).make("begin", 0);
        run.make("send", 0, 0, 1, 1).make("commit", 0).make("begin", 0).make("send", 0, 0, 1, 1).make("abort", 0);
        run.make("begin", 0).make("send", 0, 0, 1, 1).due(0, "message", 0, 1).due(2, "message", 1, 1);
        run.due(3, "message", 2, 1).due(1, "message", 3, 1).due(1, "message", 1, 8).due(0, "message", 2, 8);
        run.due(0, "message", 3, 8);
    }

    private void whetherAMessageCanBeRead() {
        Run run = logs("promise 30: whether it can be read: below the stable offset, not at it; also without a leader");
        run.make("send", 0, 0, 0, 1).due(1, "fetch", 1).make("send", 0, 0, 0, 1).due(1, "message", 0, 8);
        run.due(0, "message", 1, 8).make("fail", 1).due(1, "message", 1, 8).make("fail", 0).due(1, "message", 1, 8);
    }

    // ======== promise 31

    private void whichPartitionAt() {
        Run run = logs("promise 31: IndexOutOfBoundsException if there is no such partition");
        run.make("send", 0, 0, 1, 1).noneOutside(0, 1, 0, "at", 0, 0).due(NONE, "at", 0, 0).due(0, "at", 1, 0);
    }

    private void whichOffsetAt() {
        Run run = oneLog("promise 31: offset: 0 or more; refused below 0").make("send", 0, 0, 1, 1);
        run.noPlace("at", 0, -1).noPlace("at", 0, MIN).due(0, "at", 0, 0).due(NONE, "at", 0, 1).due(NONE, "at", 0, 59);
        run.due(NONE, "at", 0, 60).due(NONE, "at", 0, 61).due(NONE, "at", 0, MAX).noPlace("at", 1, 0)
                .noPlace("at", 1, -1);
    }

    private void whatStandsAtAnOffset() {
        Run run = oneLog(
                "promise 31: which message is STORED at an offset; NONE without one: REMOVED, or OPEN and STORED");
        run.make("retain", 0, 999, 1).times(2, "send", 0, 0, 1, 1).make("tick", 1).due(NONE, "at", 0, 0)
                .due(1, "at", 0, 1);
        run.make("begin", 0).make("send", 0, 0, 1, 1).due(2, "at", 0, 2).make("abort", 0).due(2, "at", 0, 2);
    }

    // ======== promise 32

    private void whichPartition() {
        Run run = run("promise 32: IndexOutOfBoundsException if there is no such partition").noPlace("partition", 0, 0);
        run.make("topic", 2, 1, 0).make("topic", 1, 1, 0).noneOutside(0, 2, 0, "partition", 0, 0)
                .due(0, "partition", 0, 0);
        run.due(1, "partition", 2, 0).noPlace("partition", 3, 8);
    }

    private void whatOfAPartition() {
        Run run = logs("promise 32: IllegalArgumentException if what is not 0 to 7");
        run.badOutside(0, 7, 1, "partition", 1, 0).times(2, "send", 0, 0, 1, 1).due(2, "fetch", 2);
        run.dueEach(new int[] {0, 0, 3, 2, 2, 0, 2, 2}, "partition", 1).noPlace("partition", 2, 8);
    }

    private void whoLeadsAPartition() {
        Run run = run("promise 32: the number of the replica that leads, NONE without; the end of the log then");
        run.make("topic", 1, 3, 0).make("producer").make("send", 0, 0, 1, 1).make("tick", 1);
        run.dueEach(new int[] {0, 0, 7, 1, 1, 0, 1, 1}, "partition", 0).make("fail", 0);
        run.dueEach(new int[] {0, 1, 6, 1, 1, 0, 1, 1}, "partition", 0).make("fail", 1);
        run.dueEach(new int[] {0, 2, 4, 1, 1, 0, 1, 1}, "partition", 0).make("fail", 2);
        run.dueEach(new int[] {0, NONE, 4, 1, 1, 0, 1, 1}, "partition", 0);
    }

    private void howManyAreStored() {
        Run run = run("promise 32: how many STORED messages it has: above the high watermark, too; not REMOVED ones");
        run.make("topic", 1, 2, 1).make("producer").make("speed", 0).times(3, "send", 0, 0, 1, 1).due(3, "fetch", 1);
        run.make("begin", 0).make("send", 0, 0, 1, 1).due(4, "partition", 0, 7).due(2, "compact", 0);
        run.due(2, "partition", 0, 7).due(4, "partition", 0, 6).due(0, "partition", 0, 5).due(1, "fail", 0);
        run.due(1, "partition", 0, 7).due(3, "partition", 0, 6);
    }

    // ======== promise 33

    private void whichReplica() {
        Run run = run("promise 33: IndexOutOfBoundsException if there is no such partition or replica");
        run.noPlace("replica", 0, 0, 0).make("topic", 1, 1, 0).make("topic", 1, 2, 0).make("topic", 1, 3, 0);
        run.noneOutside(0, 2, 0, "replica", 0, 0, 0);
        for (int partition = 0; partition <= 2; partition++) {
            run.noneOutside(0, partition, 1, "replica", partition, 0, 0).due(0, "replica", partition, partition, 1);
        }
    }

    private void whatOfAReplica() {
        Run run = logs("promise 33: IllegalArgumentException if what is not 0 to 2");
        run.badOutside(0, 2, 2, "replica", 1, 1, 0).dueEach(new int[] {2, 0, 0}, "replica", 1, 1);
        run.noPlace("replica", 2, 0, 3).noPlace("replica", 0, 2, -1);
    }

    private void theEndOfAReplica() {
        Run run = logs("promise 33: its end, as it would be if its broker was restored now: of a live one as it is");
        run.times(3, "send", 0, 0, 0, 1).due(3, "replica", 0, 0, 1).due(0, "replica", 0, 1, 1).due(3, "fail", 0);
        run.due(0, "replica", 0, 0, 1).make("restore", 0).due(0, "replica", 0, 0, 1).due(0, "replica", 0, 1, 1);
    }

    // ======== promise 34

    private void whichPartitionOffsetAt() {
        Run run = logs("promise 34: IndexOutOfBoundsException if there is no such partition");
        run.make("send", 0, 0, 1, 1).noneOutside(0, 1, 0, "offsetAt", 0, 0).due(0, "offsetAt", 1, 0);
    }

    private void whichTick() {
        Run run = oneLog("promise 34: tick: any number; appended in the tick or later; without one, the end of the log");
        run.due(0, "offsetAt", 0, 0).make("tick", 5).make("send", 0, 0, 1, 1).make("tick", 2)
                .times(2, "send", 0, 0, 1, 1);
        run.due(0, "offsetAt", 0, MIN).due(0, "offsetAt", 0, -1).due(0, "offsetAt", 0, 5).due(1, "offsetAt", 0, 6);
        run.due(1, "offsetAt", 0, 7).due(3, "offsetAt", 0, 8).due(3, "offsetAt", 0, MAX);
    }

    private void offsetAtOfWhatIsRemovedOrOpen() {
        Run run = logs(
                "promise 34: the least offset of a STORED message: not a REMOVED one; OPEN, and above the high watermark, too");
        run.times(2, "send", 0, 0, 0, 1).due(2, "fetch", 1).make("retain", 0, 999, 1).make("tick", 1)
                .due(1, "offsetAt", 0, MIN);
        run.make("begin", 0).make("send", 0, 0, 0, 1).due(2, "offsetAt", 0, 1).due(1, "fail", 0).due(2, "offsetAt", 0, 1);
    }

    private void offsetAtWithoutALeader() {
        Run run = logs("promise 34: without one, the end of the log, also without a leader");
        run.times(2, "send", 0, 0, 0, 1).make("fail", 1).make("fail", 0).due(2, "offsetAt", 0, 1)
                .due(0, "offsetAt", 0, 0);
    }

    // ======== promise 35

    private void whichTopicsValue() {
        Run run = oneLog("promise 35: IndexOutOfBoundsException if there is no such topic").make("topic", 1, 1, 0);
        run.make("send", 0, 1, 1, 7).noneOutside(0, 1, 0, "value", 0, 1).due(NONE, "value", 0, 1).due(7, "value", 1, 1);
    }

    private void valuesOfKeys() {
        Run run = run("promise 35: key: any number: its partition is told by floor-modulo");
        run.make("topic", 3, 1, 0).make("producer");
        int[] keys = {MIN, -1, 0, 1, MAX};
        for (int i = 0; i < keys.length; i++) {
            run.due(NONE, "value", 0, keys[i]).make("send", 0, 0, keys[i], 990 + i);
        }
        for (int i = 0; i < keys.length; i++) {
            run.due(990 + i, "value", 0, keys[i]).due(990 + i, "sum", 0, keys[i], 0, 0);
        }
        run.due(NONE, "value", 0, 3).due(NONE, "value", 0, MIN + 3).due(0, "sum", 0, MAX - 3, 0, 0);
    }

    private void theLastValueThatCanBeRead() {
        Run run = logs(
                "promise 35: that of the last message of it that can be read: not at the stable offset; NONE if it has none");
        run.make("send", 0, 0, 0, 0).due(NONE, "value", 0, 0).due(1, "fetch", 1).due(0, "value", 0, 0);
        run.make("send", 0, 0, 0, 999).due(0, "value", 0, 0).due(1, "fetch", 1).due(999, "value", 0, 0);
        run.make("send", 0, 0, 0, NONE).due(1, "fetch", 1).due(NONE, "value", 0, 0).make("send", 0, 0, 2, 5);
        run.due(1, "fetch", 1).due(NONE, "value", 0, 0).due(5, "value", 0, 2);
    }

    private void valuesBehindAnOpenMessage() {
        Run run = oneLog(
                "promises 35, 36: .. that can be read: not behind an OPEN message").make("producer").make("begin", 1);
        run.make("send", 0, 0, 1, 5).make("send", 1, 0, 2, 6).make("send", 0, 0, 1, 7).due(5, "value", 0, 1);
        run.due(5, "sum", 0, 1, 0, 0).due(0, "message", 2, 8).make("abort", 1).due(7, "value", 0, 1);
        run.due(12, "sum", 0, 1, 0, 0).due(NONE, "value", 0, 2);
    }

    private void theValueOfARemovedMessage() {
        Run run = oneLog("promise 35: NONE if there is no such message: all of the key REMOVED, or ABORTED");
        run.make("retain", 0, 0, 60).make("send", 0, 0, 1, 5).due(5, "value", 0, 1).make("tick", 1)
                .due(NONE, "value", 0, 1);
        run.make("begin", 0).make("send", 0, 0, 1, 6).due(NONE, "value", 0, 1).make("abort", 0).due(NONE, "value", 0, 1);
    }

    // ======== promise 36

    private void whichTopicsSum() {
        Run run = oneLog("promise 36: IndexOutOfBoundsException if there is no such topic").make("topic", 1, 1, 0);
        run.make("send", 0, 1, 1, 7).noneOutside(0, 1, 0, "sum", 0, 1, 0, 9).due(0, "sum", 0, 1, 0, 9);
        run.due(7, "sum", 1, 1, 0, 9);
    }

    private void fromAndTo() {
        Run run = oneLog("promise 36: from the first tick to the last tick, both counting; 0 without any");
        for (int value = 1; value <= 100; value *= 10) {
            run.make("tick", 1).make("send", 0, 0, 1, value);
        }
        run.due(111, "sum", 0, 1, 1, 3).due(110, "sum", 0, 1, 2, 3).due(11, "sum", 0, 1, 1, 2).due(10, "sum", 0, 1, 2, 2);
        run.due(0, "sum", 0, 1, 3, 2).due(0, "sum", 0, 1, 4, MAX).due(0, "sum", 0, 1, MIN, 0)
                .due(111, "sum", 0, 1, MIN, MAX);
        run.due(0, "sum", 0, 1, MAX, MIN).due(0, "sum", 0, 2, 0, 9);
    }

    private void sumsOfValues() {
        Run run = oneLog("promise 36: messages without a value count as 0; the greatest sum there is");
        run.make("quota", 0, 20).make("send", 0, 0, 1, NONE).due(0, "sum", 0, 1, 0, 0).times(3, "producer");
        run.times(19, "send", 0, 0, 1, 999);
        for (int producer = 1; producer <= 2; producer++) {
            run.make("quota", producer, 20).times(20, "send", producer, 0, 1, 999);
        }
        run.due(59 * 999, "sum", 0, 1, 0, 0);
    }

    private void sumsOfWhatCanBeRead() {
        Run run = logs("promise 36: of messages that can be read: not at the stable offset, nor ABORTED, nor REMOVED");
        run.make("send", 0, 0, 0, 1).make("begin", 0).make("send", 0, 0, 0, 10).make("abort", 0)
                .make("send", 0, 0, 0, 100);
        run.due(0, "sum", 0, 0, 0, 9).due(3, "fetch", 1).make("send", 0, 0, 0, 500).due(101, "sum", 0, 0, 0, 9);
        run.make("retain", 0, 999, 2).make("tick", 1).due(2, "partition", 0, 5).due(100, "sum", 0, 0, 0, 9);
    }

    // ======== promise 37

    private void whichShare() {
        Run run = run("promise 37: IndexOutOfBoundsException if there is no such group, or it has no such partition");
        run.make("topic", 1, 1, 0).make("topic", 2, 1, 0).make("topic", 1, 1, 0).make("group", 2);
        run.noneOutside(0, 0, 0, "share", 0, 1, 0).noneOutside(1, 2, 1, "share", 0, 1, 0).noPlace("share", 0, 4, 0);
        run.due(0, "share", 0, 1, 2).due(0, "share", 0, 2, 2);
    }

    private void whatOfAShare() {
        Run run = group(
                "promise 37: IllegalArgumentException if what is not 0 to 6").badOutside(0, 6, 2, "share", 0, 0, 0);
        run.dueEach(new int[] {0, 0, 0, 5, 3, 2, 1}, "share", 0, 0).noPlace("share", 0, 1, 7).noPlace("share", 1, 0, -1);
    }

    private void aShareWithoutAnOwner() {
        Run run = oneLog(
                "promise 37: its owner, NONE without one; its target, NONE; the offset it reads on, NONE").make("group", 1);
        run.make("send", 0, 0, 1, 1).dueEach(new int[] {NONE, NONE, 0, NONE, 1, 0, 0}, "share", 0, 0).make("join", 0);
        run.dueEach(new int[] {NONE, 0, 0, NONE, 1, 0, 0}, "share", 0, 0);
    }

    private void theLag() {
        Run run = group(
                "promise 37: its lag: at its committed offset or behind it, and neither waiting nor dead letters");
        run.due(3, "share", 0, 0, 4).make("done", 0, 0, 3).due(3, "share", 0, 0, 4).due(1, "commitOffsets", 0, 0);
        run.due(4, "share", 0, 0, 2).due(2, "share", 0, 0, 4).make("done", 0, 0, 4).make("read", 0, 0)
                .make("done", 0, 0, 5);
        run.due(1, "commitOffsets", 0, 0).due(0, "share", 0, 0, 4);
    }

    private void theLagOfTheHand() {
        Run run = group(
                "promise 37: its lag: those in the hand count, also those that were delivered from a waiting row");
        run.make("tick", 2).due(3, "share", 0, 0, 4).due(1, "read", 0, 0).due(4, "share", 0, 0, 4).make("done", 0, 0, 1);
        run.due(4, "share", 0, 0, 4).due(2, "read", 0, 0).due(5, "share", 0, 0, 4).due(12, "retry", 0, 0, 2);
        run.due(4, "share", 0, 0, 4);
    }

    private void theLagBelowTheStableOffset() {
        Run run = logs(
                "promise 37: its lag: how many messages that can be read: not at the stable offset").make("group", 1);
        run.make("send", 0, 0, 0, 1).due(0, "share", 0, 0, 4).due(1, "fetch", 1).make("send", 0, 0, 0, 1);
        run.due(1, "share", 0, 0, 4).due(0, "seek", 0, 0, 1).due(0, "share", 0, 0, 4).due(1, "fetch", 1);
        run.due(1, "share", 0, 0, 4).due(1, "seek", 0, 0, 60).due(0, "share", 0, 0, 4);
    }

    // ======== promise 38

    private void whichMember() {
        Run run = group("promise 38: IndexOutOfBoundsException if there is no such group, or member in it");
        run.noneOutside(0, 0, 0, "member", 0, 0, 0).noneOutside(0, 1, 1, "member", 0, 0, 0).make("leave", 0, 0);
        run.noneOutside(1, 1, 1, "member", 0, 1, 0).noneOutside(1, 11, 1, "member", 0, 1, 0).due(0, "member", 0, 1, 0);
    }

    private void whatOfAMember() {
        Run run = group(
                "promise 38: IllegalArgumentException if what is not 0 to 4").badOutside(0, 4, 2, "member", 0, 0, 0);
        run.dueEach(new int[] {1, 1, 3, 2, 0}, "member", 0, 0).dueEach(new int[] {0, 0, 3, 0, 0}, "member", 0, 1);
        run.noPlace("member", 0, 2, 5).noPlace("member", 1, 0, -1).make("beat", 0, 1).due(6, "member", 0, 1, 4);
    }

    // ======== promise 39

    private void whichPlaceInAHand() {
        Run run = group("promise 39: IndexOutOfBoundsException if there is no such group, member in it, or place");
        run.noneOutside(0, 0, 0, "hand", 0, 0, 0, 0).noneOutside(0, 1, 1, "hand", 0, 0, 0, 0);
        run.noneOutside(0, 1, 2, "hand", 0, 0, 0, 0).noPlace("hand", 0, 1, 0, 0).make("done", 0, 0, 3);
        run.noneOutside(0, 0, 2, "hand", 0, 0, 0, 0).due(4, "hand", 0, 0, 0, 0).make("done", 0, 0, 4);
        run.noPlace("hand", 0, 0, 0, 0);
    }

    private void whatOfAHand() {
        Run run = group(
                "promise 39: IllegalArgumentException if what is not 0 to 2").badOutside(0, 2, 3, "hand", 0, 0, 1, 0);
        run.dueEach(new int[] {3, 0, 0}, "hand", 0, 0, 0).dueEach(new int[] {4, 0, 0}, "hand", 0, 0, 1);
        run.noPlace("hand", 1, 0, 0, 3).noPlace("hand", 0, 2, 0, 3).noPlace("hand", 0, 0, 2, -1).make("tick", 2);
        run.make("read", 0, 0).dueEach(new int[] {1, 1, 1}, "hand", 0, 0, 2);
    }

    private void aFullHand() {
        Run run = group(
                "promise 39: place: 0 the one that was delivered first, up to the ninth").make("credits", 0, 0, 9);
        run.times(6, "send", 0, 0, 9, 1).times(7, "read", 0, 0).noneOutside(0, 8, 2, "hand", 0, 0, 0, 0);
        run.due(3, "hand", 0, 0, 0, 0).due(11, "hand", 0, 0, 8, 0);
    }

    // ======== promise 40

    private void whichPlaceOfThoseThatWait() {
        Run run = group("promise 40: IndexOutOfBoundsException if there is no such group or place");
        run.noneOutside(0, 0, 0, "waits", 0, 0, 0).noneOutside(0, 1, 1, "waits", 0, 0, 0).make("tick", 2);
        run.make("read", 0, 0).noneOutside(0, 0, 1, "waits", 0, 0, 0).make("done", 0, 0, 1).make("read", 0, 0);
        run.noPlace("waits", 0, 0, 0).due(0, "ofGroup", 0, 3);
    }

    private void whatOfThoseThatWait() {
        Run run = group(
                "promise 40: IllegalArgumentException if what is not 0 to 2").badOutside(0, 2, 2, "waits", 0, 1, 0);
        run.dueEach(new int[] {1, 8, 1}, "waits", 0, 0).dueEach(new int[] {2, 8, 1}, "waits", 0, 1);
        run.noPlace("waits", 1, 0, 3).noPlace("waits", 0, 2, -1);
    }

    private void theOrderOfThoseThatWait() {
        Run run = group("promise 40: they are in the order of their due ticks, then their numbers");
        run.make("tick", 1).make("retry", 0, 0, 4).make("retry", 0, 0, 3).make("read", 0, 0).make("join", 0);
        int[] order = {1, 2, 3, 4};
        int[] due = {8, 8, 9, 9};
        for (int place = 0; place < order.length; place++) {
            run.due(order[place], "waits", 0, place, 0).due(due[place], "waits", 0, place, 1);
        }
    }

    // ======== promise 41

    private void whichDeadLetter() {
        Run run = group("promise 41: IndexOutOfBoundsException if there is no such group or place").make("group", 1);
        run.noneOutside(0, 1, 0, "dead", 0, 0).noneOutside(0, 0, 1, "dead", 0, 0).noPlace("dead", 1, 0)
                .due(0, "dead", 0, 0);
    }

    private void theOrderOfDeadLetters() {
        Run run = oneLog("promise 41: 0 the one that became it first, and so on, not the one with the least number");
        run.make("group", 1).make("join", 0).make("beat", 0, 0).make("send", 0, 0, 1, 1).make("send", 0, 0, 2, 1);
        for (int ticks = 2; ticks <= 4; ticks += 2) {
            run.times(2, "read", 0, 0).make("retry", 0, 0, 0).make("retry", 0, 0, 1).make("tick", ticks);
        }
        run.times(2, "read", 0, 0).due(NONE, "retry", 0, 0, 1).noPlace("dead", 0, 1).due(NONE, "retry", 0, 0, 0);
        run.due(1, "dead", 0, 0).due(0, "dead", 0, 1).noneOutside(0, 1, 1, "dead", 0, 0).due(2, "share", 0, 0, 6);
    }

    // ======== promise 42

    private void whichMessageWasSeen() {
        Run run = group("promise 42: IndexOutOfBoundsException if there is no such group or message");
        run.noneOutside(0, 0, 0, "seen", 0, 0).noneOutside(0, 5, 1, "seen", 0, 0).due(0, "seen", 0, 5)
                .due(1, "seen", 0, 4);
        run.due(3, "seen", 0, 0).make("group", 1).due(0, "seen", 1, 0);
    }

    private void seenOfTheLastMessage() {
        Run run = run("promise 42: the last of 150 messages").make("topic", 3, 1, 0).make("producer").make("producer");
        run.times(149, "sendLater", 0, 0, 0, 1, 50).due(149, "send", 1, 0, 1, 5).make("group", 1).make("join", 0);
        run.make("beat", 0, 0).due(149, "read", 0, 0).due(1, "seen", 0, 149).noPlace("seen", 0, 150)
                .due(0, "seen", 0, 148);
        run.due(2, "retry", 0, 0, 149).due(149, "waits", 0, 0, 0).make("tick", 2).due(149, "read", 0, 0);
        run.due(2, "seen", 0, 149).due(5, "message", 149, 6);
    }

    // ======== promise 43

    private void whatIsCounted() {
        Run run = run("promise 43: IllegalArgumentException if what is not 0 to 9").badOutside(0, 9, 0, "count", 0);
        run.dueEach(new int[] {0, 0, 0, 0, 0, 0, 7, 0, 0, 0}, "count");
    }

    private void theMostThatIsCounted() {
        Run run = run("promise 43: the most topics, partitions, producers, groups, transactions; no broker is live");
        run.times(3, "topic", 3, 2, 0).times(4, "producer").times(3, "group", 7).make("begin", 0).make("begin", 1);
        run.make("begin", 2).make("begin", 3).make("send", 0, 0, 0, 1).make("sendLater", 0, 0, 0, 1, 9).make("fail", 0);
        run.make("fail", 1).make("fail", 2).dueEach(new int[] {3, 9, 4, 3, 2, 0, 0, 4, 1, 1}, "count");
    }

    // ======== promise 44

    private void whichGroup() {
        Run run = run("promise 44: IndexOutOfBoundsException if there is no such group").noPlace("ofGroup", 0, 0);
        run.make("topic", 1, 1, 0).times(3, "group", 1).noneOutside(0, 2, 0, "ofGroup", 0, 0).due(0, "ofGroup", 2, 0);
    }

    private void whatOfAGroup() {
        Run run = group(
                "promise 44: IllegalArgumentException if what is not 0 to 5").badOutside(0, 5, 1, "ofGroup", 0, 0);
        run.dueEach(new int[] {2, 3, 1, 2, 1, 0}, "ofGroup", 0).noPlace("ofGroup", 1, 6).noPlace("ofGroup", -1, -1);
    }

    private void whetherAGroupIsAtRest() {
        Run run = run(
                "promise 44: whether it is at rest: it has members, and the owner of each of its partitions is its target");
        run.make("topic", 2, 1, 0).make("group", 1).due(0, "ofGroup", 0, 2).make("join", 0).due(0, "ofGroup", 0, 2);
        run.make("beat", 0, 0).due(1, "ofGroup", 0, 2).make("join", 0).due(0, "ofGroup", 0, 2).make("beat", 0, 0);
        run.due(0, "ofGroup", 0, 2).make("beat", 0, 1).due(1, "ofGroup", 0, 2).make("leave", 0, 1)
                .due(0, "ofGroup", 0, 2);
        run.make("leave", 0, 0).due(0, "ofGroup", 0, 2);
    }

    private void whatMovedIsOfMembersThatAreThereStill() {
        Run run = run("promise 44: another member, which is in the group still, was their target before; 0 at first");
        run.make("topic", 3, 1, 0).make("group", 1).due(0, "ofGroup", 0, 5).make("join", 0).due(0, "ofGroup", 0, 5);
        run.make("join", 0).due(1, "ofGroup", 0, 5).make("beat", 0, 0).due(1, "ofGroup", 0, 5).make("leave", 0, 0);
        run.due(0, "ofGroup", 0, 5).make("join", 0).due(1, "ofGroup", 0, 5).make("tick", 11).due(0, "ofGroup", 0, 5);
    }

    // ======== promise 45

    private void whichAudit() {
        Run run = group("promise 45: IllegalArgumentException if part is not 0 to 6").badOutside(0, 6, 0, "audit", 0);
        run.dueEach(new int[] {1, 1, 1, 1, 1, 1, 1}, "audit");
    }

    private void auditsWithoutOwnersAndMembers() {
        Run run = oneLog("promise 45: shares: none have an owner, or a target").make("group", 1).due(1, "audit", 5);
        run.make("join", 0).due(1, "audit", 5).make("beat", 0, 0).due(1, "audit", 5).make("join", 0).make("join", 0);
        run.due(1, "audit", 5).make("leave", 0, 0).due(1, "audit", 5).due(1, "audit", 6);
    }

    private void auditsOfDelayedAndCutMessages() {
        Run run = logs(
                "promise 45: producers: messages that were delayed, CUT ones and ABORTED ones may stand in any order");
        run.make("sendLater", 0, 0, 0, 1, 1).make("send", 0, 0, 0, 1).make("tick", 1).due(1, "at", 0, 0)
                .due(0, "at", 0, 1);
        run.dueEach(new int[] {1, 1, 1, 1, 1, 1, 1}, "audit").make("begin", 0).make("send", 0, 0, 0, 1).due(3, "fail", 0);
        run.due(2, "resend", 0, 0).due(0, "at", 0, 0).dueEach(new int[] {1, 1, 1, 1, 1, 1, 1}, "audit")
                .due(1, "abort", 0);
    }

    private void auditsBehindSeeks() {
        Run run = group("promise 45: order, offsets: since the latest seek() of a partition, forwards and backwards");
        run.make("leave", 0, 0).due(0, "seek", 0, 0, 4).make("beat", 0, 1).due(4, "read", 0, 1).due(1, "audit", 6);
        run.make("leave", 0, 1).due(4, "seek", 0, 0, 0).make("join", 0).make("beat", 0, 2).due(0, "read", 0, 2);
        run.make("done", 0, 2, 0).due(1, "commitOffsets", 0, 2).dueEach(new int[] {1, 1, 1, 1, 1, 1, 1}, "audit");
    }

    private void auditsOfAKeyBehindSeeks() {
        Run run = oneLog("promise 45: order: the messages of each key, since the latest seek()").make("group", 1);
        run.times(3, "send", 0, 0, 1, 1).due(0, "seek", 0, 0, 2).make("join", 0).make("beat", 0, 0).due(2, "read", 0, 0);
        run.make("leave", 0, 0).due(2, "seek", 0, 0, 0).make("join", 0).make("beat", 0, 1).due(0, "read", 0, 1);
        run.dueEach(new int[] {1, 1, 1, 1, 1, 1, 1}, "audit").due(1, "read", 0, 1).due(2, "read", 0, 1)
                .due(1, "audit", 3);
        run.make("leave", 0, 1).due(0, "seek", 0, 0, 1).make("join", 0).make("beat", 0, 2).due(1, "read", 0, 2);
        run.make("done", 0, 2, 1).due(1, "commitOffsets", 0, 2).dueEach(new int[] {1, 1, 1, 1, 1, 1, 1}, "audit");
    }

    private void auditsOfWhatWaits() {
        Run run = oneLog("promise 45: offsets: what stands below the committed offset was delivered, waits, or is dead");
        run.make("group", 1).make("join", 0).make("beat", 0, 0).times(2, "send", 0, 0, 1, 1).due(0, "read", 0, 0);
        run.due(2, "retry", 0, 0, 0).due(NONE, "read", 0, 0).due(1, "commitOffsets", 0, 0).due(2, "share", 0, 0, 2);
        run.due(0, "seen", 0, 1).due(2, "ofGroup", 0, 3).dueEach(new int[] {1, 1, 1, 1, 1, 1, 1}, "audit");
        run.due(1, "leave", 0, 0).dueEach(new int[] {1, 1, 1, 1, 1, 1, 1}, "audit").make("join", 0).make("beat", 0, 1);
        run.make("tick", 2).due(0, "read", 0, 1).due(6, "retry", 0, 1, 0).make("tick", 4).due(0, "read", 0, 1);
        run.due(NONE, "retry", 0, 1, 0).dueEach(new int[] {1, 1, 1, 1, 1, 1, 1}, "audit").due(1, "read", 0, 1);
        run.dueEach(new int[] {1, 1, 1, 1, 1, 1, 1}, "audit");
    }

    private void auditsOfWhatCannotBeRead() {
        Run run = oneLog("promise 45: offsets: what cannot be read is not asked: REMOVED and ABORTED messages");
        run.make("group", 1).make("retain", 0, 999, 2).times(3, "send", 0, 0, 1, 1).make("tick", 1).make("begin", 0);
        run.make("send", 0, 0, 1, 1).due(1, "abort", 0).make("send", 0, 0, 1, 1).make("join", 0).make("beat", 0, 0);
        run.due(1, "commitOffsets", 0, 0).due(1, "share", 0, 0, 2).due(1, "audit", 4).due(1, "read", 0, 0);
        run.due(2, "read", 0, 0).due(4, "read", 0, 0).make("done", 0, 0, 1).make("done", 0, 0, 2);
        run.due(1, "commitOffsets", 0, 0).due(4, "share", 0, 0, 2).due(0, "seen", 0, 3);
        run.dueEach(new int[] {1, 1, 1, 1, 1, 1, 1}, "audit").make("tick", 1).due(3, "message", 2, 0).due(3, "at", 0, 3);
        run.dueEach(new int[] {1, 1, 1, 1, 1, 1, 1}, "audit");
    }

    private void auditsOfAKeyInSeveralPartitions() {
        Run run = run("promise 45: order: the messages of a key in a partition, not those in others");
        run.make("topic", 1, 1, 0).make("topic", 1, 1, 0).make("producer").make("group", 3).make("join", 0);
        run.make("beat", 0, 0).times(2, "send", 0, 0, 1, 1).due(0, "read", 0, 0).due(1, "read", 0, 0);
        run.make("send", 0, 1, 1, 1).due(2, "read", 0, 0).dueEach(new int[] {1, 1, 1, 1, 1, 1, 1}, "audit");
    }

    private void auditsOfLoweredEnds() {
        Run run = logs("promise 45: logs: ends, as replica() tells them, with brokers that are not live");
        run.times(2, "send", 0, 0, 0, 1).times(2, "send", 0, 0, 1, 1).due(2, "fail", 0).due(1, "audit", 0);
        run.due(2, "fail", 1).dueEach(new int[] {1, 1, 1, 1, 1, 1, 1}, "audit").due(0, "fail", 2).due(1, "audit", 0);
        run.due(0, "restore", 0).due(1, "audit", 0).due(1, "restore", 1).due(1, "audit", 0).due(1, "restore", 2);
        run.due(2, "resend", 0, 0).due(2, "resend", 0, 1).due(1, "audit", 0);
    }

    // ======== promise 46

    private void theDigestOfNothing() {
        run("promise 46: it is 17 at first").due(17, "digest").make("tick", 1).make("producer").due(17, "digest");
    }

    private void theDigestWrapsAround() {
        Run run = oneLog("promise 46: 31 times itself and the number together, as an int");
        int taken = digest(17, 0, 1, 0, 0, 0, 0, 0);
        check.yes("it went around", taken != digestOfLong(17, 0, 1, 0, 0, 0, 0, 0));
        run.due(taken, "digest");
    }

    private void whatTheDigestTakesIn() {
        Run run = group(
                "promise 46: of each message 0, 1, 4, 7; of each partition 1 to 7; of each group 0, 1, 3, 4, and its shares");
        run.make("begin", 0).make("send", 0, 0, 1, 1).make("sendLater", 0, 0, 1, 1, 1);
        int taken = 17;
        for (int message = 0; message < 6; message++) {
            taken = digest(taken, 1, 0, message, 0);
        }
        taken = digest(digest(taken, 1, 1, 6, 6), 0, 0, NONE, NONE);
        taken = digest(taken, 0, 1, 7, 6, 0, 7, 7);
        taken = digest(taken, 2, 3, 2, 1);
        run.due(digest(taken, 0, 0, 0, 5, 3), "digest").make("join", 0).make("leave", 0, 0).make("commit", 0);
        taken = 17;
        for (int message = 0; message < 6; message++) {
            taken = digest(taken, 1, 0, message, 0);
        }
        taken = digest(digest(taken, 1, 2, 6, 6), 0, 0, NONE, NONE);
        taken = digest(taken, 0, 1, 7, 7, 0, 7, 7);
        run.due(digest(digest(taken, 4, 6, 2, 1), NONE, 1, 0, NONE, 4), "digest");
    }

    private void theDigestOfSeveralGroups() {
        Run run = run("promise 46: of each of its partitions, rising; of each group, rising");
        run.make("topic", 1, 1, 0).make("topic", 2, 2, 0).make("group", 2).make("group", 1).make("join", 1)
                .make("beat", 1, 0);
        int taken = digest(17, 0, 1, 0, 0, 0, 0, 0);
        taken = digest(digest(taken, 0, 3, 0, 0, 0, 0, 0), 0, 3, 0, 0, 0, 0, 0);
        taken = digest(taken, 0, 0, 0, 0);
        taken = digest(digest(taken, NONE, NONE, 0, NONE, 0), NONE, NONE, 0, NONE, 0);
        run.due(digest(digest(taken, 1, 1, 0, 0), 0, 0, 0, 0, 0), "digest");
    }

    private static int digest(int before, int... numbers) {
        int taken = before;
        for (int number : numbers) {
            taken = taken * 31 + number;
        }
        return taken;
    }

    private static long digestOfLong(long before, int... numbers) {
        long taken = before;
        for (int number : numbers) {
            taken = taken * 31 + number;
        }
        return taken;
    }
}
