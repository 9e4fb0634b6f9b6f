/** Promises 10 to 19 and the terms 'Messages, producers', 'Transactions': a test for each sentence with a boundary. */
public final class ProducerBoundsTest {
    private static final int MIN = Integer.MIN_VALUE;
    private static final int MAX = Integer.MAX_VALUE;
    private static final int NONE = -1;
    private final Check check = new Check();

    public static void main(String[] args) throws ReflectiveOperationException {
        ProducerBoundsTest tests = new ProducerBoundsTest();
        tests.check.runAll(tests);
    }

    private Run run(String about) {
        return new Run(check, about);
    }

    /** One partition with as many replicas, two producers; nothing is copied in ticks. */
    private Run oneLog(String about, int replicas) {
        return run(about).make("topic", 1, replicas, 0).make("producer").make("producer").make("speed", 0);
    }

    /** One partition whose log has as many messages of the producers 1 to 3, 60 at most; nothing is copied in ticks. */
    private Run longLog(String about, int replicas, int messages) {
        Run run = run(about).make("topic", 1, replicas, 0).times(4, "producer").make("speed", 0);
        for (int producer = 1; producer <= 3; producer++) {
            run.make("quota", producer, 20);
            run.times(Math.max(0, Math.min(20, messages - 20 * (producer - 1))), "send", producer, 0, 1, 1);
        }
        return run.due(messages, "partition", 0, 6);
    }

    /** Three partitions with one replica; all but one of 150 messages, delayed ones; producer 1 has sent none. */
    private Run manyMessages(String about) {
        Run run = run(about).make("topic", 3, 1, 0).make("producer").make("producer");
        return run.times(149, "sendLater", 0, 0, 0, 1, 50).due(149, "count", 4);
    }

    /** A broken transaction of producer 0, with a CUT message in partition 0; partition 1 is of another topic. */
    private Run broken(String about) {
        Run run = oneLog(about, 2).make("topic", 1, 3, 0).make("begin", 0).make("send", 0, 0, 1, 1);
        return run.due(1, "fail", 0).due(3, "message", 0, 1);
    }

    /** A group with a member that owns both partitions of topic 0, and has read up to the offsets 2 and 1. */
    private Run places(String about) {
        Run run = run(about).make("topic", 2, 1, 0).make("producer").make("producer").make("group", 1).make("join", 0);
        run.make("beat", 0, 0).times(2, "send", 0, 0, 0, 1).make("send", 0, 0, 1, 1).times(3, "read", 0, 0);
        return run.make("done", 0, 0, 0).make("done", 0, 0, 1).make("done", 0, 0, 2);
    }

    // ======== promise 10

    private void fourProducers() {
        Run run = run("promise 10: IllegalStateException if there are 4");
        run.due(0, "producer").due(1, "producer").due(2, "producer").due(3, "producer").state("producer")
                .due(4, "count", 2);
    }

    // ======== promise 11

    private void quotaOfNoProducer() {
        Run run = run("promise 11: IndexOutOfBoundsException if there is no such producer");
        run.make("producer").make("producer").noneOutside(0, 1, 0, "quota", 0, 5).due(10, "quota", 0, 5);
        run.due(10, "quota", 1, 6).due(5, "quota", 0, 5);
    }

    private void quotas() {
        Run run = run("promise 11: messages: 0 to 20");
        run.make("producer").badOutside(0, 20, 1, "quota", 0, 5).due(10, "quota", 0, 0).due(0, "quota", 0, 20);
        run.badOutside(0, 20, 1, "quota", 0, 5).due(20, "quota", 0, 10);
    }

    private void whichComesFirstInQuota() {
        Run run = run("promise 11: no such producer comes first");
        run.make("producer").noPlace("quota", 1, 21).noPlace("quota", -1, -1).bad("quota", 0, 21);
    }

    // ======== promise 12

    private void sendOfNoProducer() {
        Run run = oneLog("promise 12: IndexOutOfBoundsException if there is no such producer", 1);
        run.noneOutside(0, 1, 0, "send", 0, 0, 1, 1).due(0, "send", 0, 0, 1, 1).due(1, "send", 1, 0, 1, 1);
    }

    private void sendToNoTopic() {
        Run run = oneLog("promise 12: IndexOutOfBoundsException if there is no such topic", 1);
        run.make("topic", 1, 1, 0).noneOutside(0, 1, 1, "send", 0, 0, 1, 1).due(0, "send", 0, 0, 1, 1);
        run.due(1, "send", 0, 1, 1, 1);
    }

    private void valuesOfSend() {
        Run run = oneLog("promise 12: value: 0 to 999, or NONE", 1);
        run.badOutside(NONE, 999, 3, "send", 0, 0, 1, 1).due(0, "send", 0, 0, 1, NONE).due(1, "send", 0, 0, 1, 0);
        run.due(2, "send", 0, 0, 1, 999).due(NONE, "message", 0, 6).due(0, "message", 1, 6).due(999, "message", 2, 6);
    }

    private void keysOfSend() {
        int[] keys = {MIN, -4, -3, -1, 0, 1, 2, 3, MAX};
        int[] ofTwo = {0, 0, 1, 1, 0, 1, 0, 1, 1};
        int[] ofThree = {1, 2, 0, 2, 0, 1, 2, 0, 1};
        Run run = run("promise 12: key: any number; Terms: floor-modulo partitions");
        run.make("topic", 1, 1, 0).make("topic", 2, 1, 0).make("topic", 3, 1, 0).times(3, "producer");
        for (int i = 0; i < keys.length; i++) {
            run.due(3 * i, "send", 0, 0, keys[i], 1).due(3 * i + 1, "send", 1, 1, keys[i], 1);
            run.due(3 * i + 2, "send", 2, 2, keys[i], 1).due(0, "message", 3 * i, 3);
            run.due(1 + ofTwo[i], "message", 3 * i + 1, 3).due(3 + ofThree[i], "message", 3 * i + 2, 3);
            run.due(keys[i], "message", 3 * i + 2, 5);
        }
    }

    private void sendBeyondTheQuota() {
        Run run = oneLog(
                "promise 12: IllegalStateException if the producer has sent its quota in this tick; at first 10", 1);
        run.times(10, "send", 0, 0, 1, 1).state("send", 0, 0, 1, 1).due(10, "send", 1, 0, 1, 1).make("tick", 1);
        run.due(11, "send", 0, 0, 1, 1);
        Run most = oneLog("promise 12: the quota of 20", 1);
        most.make("quota", 0, 20).times(20, "send", 0, 0, 1, 1).state("send", 0, 0, 1, 1);
        Run none = oneLog("promise 12: the quota of 0", 1);
        none.make("quota", 0, 0).state("send", 0, 0, 1, 1).due(0, "send", 1, 0, 1, 1).make("tick", 1)
                .state("send", 0, 0, 1, 1);
    }

    private void quotasThatChangeInATick() {
        Run run = oneLog("promise 12: a quota that became less than what was sent, as much, and one more", 1);
        run.times(4, "send", 0, 0, 1, 1).make("quota", 0, 3).state("send", 0, 0, 1, 1).make("quota", 0, 4);
        run.state("send", 0, 0, 1, 1).make("quota", 0, 5).make("send", 0, 0, 1, 1).state("send", 0, 0, 1, 1);
    }

    private void whatAQuotaDoesNotCount() {
        Run run = oneLog("Terms: delayed ones, messages that are sent again, and those of other ticks do not count", 2);
        run.make("quota", 0, 2).times(3, "sendLater", 0, 0, 1, 1, 1).times(2, "send", 0, 0, 1, 1)
                .state("send", 0, 0, 1, 1);
        run.make("tick", 1).due(5, "fail", 0).due(5, "resend", 0, 0).times(2, "send", 0, 0, 1, 1)
                .state("send", 0, 0, 1, 1);
    }

    private void sendWithABrokenTransaction() {
        Run run = broken("promise 12: IllegalStateException if its transaction is broken, whatever the partition");
        run.state("send", 0, 1, 1, 1).state("send", 0, 0, 1, 1).due(1, "send", 1, 1, 1, 1).make("abort", 0);
        run.due(2, "send", 0, 1, 1, 1).due(3, "send", 0, 0, 1, 1).due(0, "message", 3, 1);
    }

    private void sendWithoutALeader() {
        Run run = run("promise 12: IllegalStateException if the partition has no leader");
        run.make("topic", 2, 1, 0).make("producer").make("fail", 0).state("send", 0, 0, 0, 1).due(0, "send", 0, 0, 1, 1);
        run.make("restore", 0).due(1, "send", 0, 0, 0, 1);
    }

    private void sendToAFullLog() {
        Run run = longLog("promise 12: IllegalStateException if the leader's end is 60: the last place is taken", 1, 59);
        run.due(59, "send", 0, 0, 1, 1).due(59, "message", 59, 4).state("send", 0, 0, 1, 1).due(60, "partition", 0, 6);
    }

    private void sendBehindCutMessages() {
        Run run = run("promise 12: IllegalStateException if the producer has PLAIN CUT messages in the partition");
        run.make("topic", 2, 2, 0).make("topic", 1, 3, 0).make("producer").make("producer").make("speed", 0);
        run.make("send", 0, 0, 0, 1).due(1, "fail", 0).state("send", 0, 0, 2, 1).due(1, "send", 0, 0, 1, 1);
        run.due(2, "send", 0, 1, 0, 1).due(3, "send", 1, 0, 0, 1).due(1, "resend", 0, 0).due(4, "send", 0, 0, 2, 1);
    }

    private void sendBehindAbortedCutMessages() {
        Run run = oneLog("promise 12: .. PLAIN CUT messages: ABORTED ones are no hindrance", 2);
        run.make("begin", 0).make("send", 0, 0, 1, 1).due(1, "abort", 0).due(1, "fail", 0).due(2, "message", 0, 0);
        run.due(1, "send", 0, 0, 1, 1).due(0, "resend", 0, 0);
    }

    private void theLastMessageOfAll() {
        Run run = manyMessages("promise 12: IllegalStateException if there are 150 messages");
        run.due(149, "send", 1, 0, 0, 1).state("send", 1, 0, 0, 1).state("send", 0, 0, 1, 1).due(150, "count", 4);
        run.noneOutside(0, 149, 0, "message", 0, 0);
    }

    private void whichComesFirstInSend() {
        Run run = oneLog("promise 12: no such producer or topic comes first, then the value, then the state", 1);
        run.make("quota", 0, 0).make("fail", 0).noPlace("send", 2, 0, 1, -2).noPlace("send", 0, 1, 1, 1000);
        run.noPlace("send", -1, -1, 1, -2).noPlace("send", 0, 1, 1, 1).bad("send", 0, 0, 1, -2)
                .bad("send", 0, 0, 1, 1000);
        run.state("send", 0, 0, 1, NONE);
    }

    // ======== promise 13

    private void sendSomeOfNoProducerToNoTopic() {
        Run run = oneLog("promise 13: IndexOutOfBoundsException if there is no such producer or topic", 1);
        run.noneOutside(0, 1, 0, "sendSome", 0, 0, 1, 1).noneOutside(0, 0, 1, "sendSome", 0, 0, 1, 1);
        run.due(1, "sendSome", 1, 0, 1, 1);
    }

    private void howManyOfSendSome() {
        Run run = oneLog("promise 13: messages: 1 to 12", 1);
        run.badOutside(1, 12, 2, "sendSome", 0, 0, 1, 1).make("quota", 0, 20).due(1, "sendSome", 0, 0, 1, 1);
        run.due(12, "sendSome", 0, 0, 12, 1).due(13, "count", 4);
    }

    private void whichComesFirstInSendSome() {
        Run run = oneLog("promise 13: no such producer or topic comes first", 1);
        run.noPlace("sendSome", 2, 0, 0, 1).noPlace("sendSome", 0, 1, 13, 1).make("quota", 0, 0)
                .bad("sendSome", 0, 0, 13, 1);
    }

    private void drawsOfSendSome() {
        int[] seeds = {0, 1, -1, MIN, MAX};
        int[][] keys = {{0, 1, 3}, {3, 3, 4}, {2, 2, 3}, {3, 3, 1}, {4, 0, 1}};
        int[][] values = {{36, 85, 95}, {26, 83, 95}, {9, 86, 94}, {68, 17, 27}, {77, 18, 26}};
        for (int s = 0; s < seeds.length; s++) {
            Run run = oneLog("promise 13: draws are the upper 16 bits, 0 to 65535, of X as an int; seed " + seeds[s], 1);
            run.due(3, "sendSome", 0, 0, 3, seeds[s]);
            for (int message = 0; message < 3; message++) {
                run.due(keys[s][message], "message", message, 5).due(values[s][message], "message", message, 6);
            }
        }
    }

    private void sendSomeEndsAtTheQuota() {
        Run run = oneLog("promise 13: it ends ahead of the first one that send() would refuse: at the quota", 1);
        run.due(10, "sendSome", 0, 0, 12, 1).due(0, "sendSome", 0, 0, 1, 1).state("send", 0, 0, 1, 1).make("tick", 1);
        run.due(4, "sendSome", 0, 0, 4, 1).due(6, "sendSome", 0, 0, 7, 1);
    }

    private void sendSomeEndsAtTheEndOfTheLog() {
        Run run = longLog("promise 13: it ends ahead of the first one that send() would refuse: at the end 60", 1, 58);
        run.due(2, "sendSome", 0, 0, 3, 1).due(0, "sendSome", 0, 0, 3, 1).due(60, "partition", 0, 6);
    }

    private void sendSomeEndsAtTheLastMessage() {
        Run run = manyMessages("promise 13: it ends ahead of the first one that send() would refuse: at 150 messages");
        run.due(1, "sendSome", 1, 0, 12, 1).due(0, "sendSome", 1, 0, 12, 1).due(150, "count", 4);
    }

    private void sendSomeEndsWithoutALeader() {
        Run run = run("promise 13: it ends ahead of the first one that send() would refuse: one without a leader");
        run.make("topic", 2, 1, 0).make("producer").make("fail", 0).due(3, "sendSome", 0, 0, 12, 48);
        run.due(0, "partition", 0, 6).due(3, "partition", 1, 6).due(3, "count", 4).due(0, "sendSome", 0, 0, 12, 0);
        run.times(7, "send", 0, 0, 1, 1).state("send", 0, 0, 1, 1);
    }

    private void sendSomeEndsBehindCutMessages() {
        Run run = oneLog("promise 13: it ends ahead of the first one that send() would refuse: behind PLAIN CUT ones", 2);
        run.make("send", 0, 0, 1, 1).make("fail", 0).due(0, "sendSome", 0, 0, 12, 1).due(3, "sendSome", 1, 0, 3, 1);
        Run broken = broken("promise 13: it ends ahead of the first one that send() would refuse: a broken transaction");
        broken.due(0, "sendSome", 0, 1, 1, 1).due(1, "count", 4);
    }

    // ======== promise 14

    private void sendLaterOfNoProducerToNoTopic() {
        Run run = oneLog("promise 14: IndexOutOfBoundsException if there is no such producer or topic", 1);
        run.noneOutside(0, 1, 0, "sendLater", 0, 0, 1, 1, 1).noneOutside(0, 0, 1, "sendLater", 0, 0, 1, 1, 1);
        run.due(0, "sendLater", 1, 0, 1, 1, 1);
    }

    private void valuesOfSendLater() {
        Run run = oneLog("promise 14: value: 0 to 999, or NONE", 1);
        run.badOutside(NONE, 999, 3, "sendLater", 0, 0, 1, 1, 1).due(0, "sendLater", 0, 0, 1, NONE, 1);
        run.due(1, "sendLater", 0, 0, 1, 0, 1).due(2, "sendLater", 0, 0, 1, 999, 1).due(NONE, "message", 0, 6);
        run.due(0, "message", 1, 6).due(999, "message", 2, 6);
    }

    private void ticksOfSendLater() {
        Run run = oneLog("promise 14: ticks: 1 to 50: it is due so many ticks from now", 1);
        run.badOutside(1, 50, 4, "sendLater", 0, 0, 1, 1, 1).due(0, "sendLater", 0, 0, 1, 1, 1);
        run.due(1, "sendLater", 0, 0, 1, 1, 50).due(0, "message", 0, 0).make("tick", 1).due(1, "message", 0, 0);
        run.make("tick", 30).make("tick", 18).due(0, "message", 1, 0).make("tick", 1).due(1, "message", 1, 0);
    }

    private void keysOfSendLater() {
        Run run = run("promise 14: key: any number");
        run.make("topic", 3, 1, 0).make("producer").make("sendLater", 0, 0, MIN, 1, 1).make("sendLater", 0, 0, -1, 1, 1);
        run.make("sendLater", 0, 0, MAX, 1, 1).due(1, "message", 0, 3).due(2, "message", 1, 3).due(1, "message", 2, 3);
        run.due(MIN, "message", 0, 5).due(MAX, "message", 2, 5);
    }

    private void theLastDelayedMessageOfAll() {
        Run run = manyMessages("promise 14: IllegalStateException if there are 150 messages");
        run.due(149, "sendLater", 1, 0, 0, 1, 1).state("sendLater", 1, 0, 0, 1, 1).due(150, "count", 9);
        run.make("tick", 1).due(1, "message", 149, 0).state("sendLater", 0, 0, 0, 1, 1);
    }

    private void whichComesFirstInSendLater() {
        Run run = manyMessages(
                "promise 14: no such producer or topic comes first, then the value or ticks, then the state");
        run.make("send", 1, 0, 0, 1).noPlace("sendLater", 2, 0, 0, -2, 0).noPlace("sendLater", 0, 1, 0, 1000, 51);
        run.bad("sendLater", 0, 0, 0, -2, 1).bad("sendLater", 0, 0, 0, 1, 0).bad("sendLater", 0, 0, 0, 1, 51);
        run.state("sendLater", 0, 0, 0, 1, 1);
    }

    private void whatSendLaterDoesNotAsk() {
        Run run = longLog("promise 14: the quota, leaders and ends are not asked", 1, 60);
        run.make("quota", 0, 0).due(60, "sendLater", 0, 0, 1, 1, 1).make("fail", 0).due(61, "sendLater", 0, 0, 1, 1, 1);
        Run cut = broken("promise 14: nor a broken transaction, nor PLAIN CUT messages");
        cut.make("restore", 0).make("fetch", 0).due(1, "sendLater", 0, 0, 1, 1, 1).due(0, "message", 1, 1)
                .make("tick", 1).due(1, "message", 1, 0);
        cut.due(1, "fail", 1).due(2, "message", 1, 0).due(2, "sendLater", 0, 0, 1, 1, 1);
    }

    private void delayedMessagesArePlain() {
        Run run = oneLog("promise 14: PLAIN also if a transaction goes on", 1);
        run.make("begin", 0).make("sendLater", 0, 0, 1, 1, 1).due(0, "message", 0, 1).make("tick", 1)
                .due(1, "message", 0, 8);
        run.due(0, "abort", 0).due(0, "message", 0, 1).due(0, "message", 0, 2);
    }

    // ======== promise 15

    private void resendOfNoProducerOrPartition() {
        Run run = oneLog("promise 15: IndexOutOfBoundsException if there is no such producer or partition", 1);
        run.make("topic", 3, 1, 0).noneOutside(0, 1, 0, "resend", 0, 0).noneOutside(0, 3, 1, "resend", 0, 0);
        run.due(0, "resend", 1, 3).make("fail", 0).noPlace("resend", 2, 0).noPlace("resend", 0, 4);
    }

    private void resendOfNothing() {
        Run run = oneLog("promise 15: returns how many were appended: 0 without any, also at the end 60", 1);
        run.due(0, "resend", 0, 0).make("send", 0, 0, 1, 1).due(0, "resend", 0, 0).due(1, "partition", 0, 6);
        longLog("promise 15: 0 without any at the end 60", 1, 60).due(0, "resend", 1, 0).due(0, "resend", 0, 0);
    }

    private void resendWithoutALeader() {
        Run run = oneLog(
                "promise 15: IllegalStateException if the partition has no leader, with something to send or not", 2);
        run.make("send", 0, 0, 1, 1).due(1, "fail", 0).make("fail", 1).state("resend", 0, 0).state("resend", 1, 0);
        run.make("restore", 1).due(1, "resend", 0, 0);
    }

    private void resendUpToTheEnd() {
        Run run = longLog("promise 15: its end may become 60", 2, 20);
        run.due(20, "fail", 0).times(10, "send", 0, 0, 1, 1).make("tick", 1).times(10, "send", 0, 0, 1, 1)
                .make("tick", 1);
        run.times(10, "send", 0, 0, 1, 1).make("tick", 1).times(10, "send", 0, 0, 1, 1).due(40, "partition", 0, 6);
        run.due(20, "resend", 1, 0).due(60, "partition", 0, 6).due(40, "message", 0, 4).due(59, "message", 19, 4);
    }

    private void resendBeyondTheEnd() {
        Run run = longLog("promise 15: IllegalStateException if its end would be above 60: none is appended", 2, 20);
        run.due(20, "fail", 0).times(10, "send", 0, 0, 1, 1).make("tick", 1).times(10, "send", 0, 0, 1, 1)
                .make("tick", 1);
        run.times(10, "send", 0, 0, 1, 1).make("tick", 1).times(10, "send", 0, 0, 1, 1).make("tick", 1);
        run.make("send", 0, 0, 1, 1).state("resend", 1, 0).due(41, "partition", 0, 6).due(20, "count", 8);
        run.due(0, "resend", 2, 0);
    }

    private void resendKeepsTheOrder() {
        Run run = oneLog(
                "Terms: resend() appends them in the order of their numbers, with the tick of now, each at most once", 2);
        run.make("sendLater", 0, 0, 1, 1, 1).make("send", 0, 0, 1, 1).make("send", 1, 0, 1, 1).make("tick", 1);
        run.make("send", 0, 0, 1, 1).due(2, "message", 0, 4).due(4, "fail", 0).make("tick", 2).due(3, "resend", 0, 0);
        run.due(0, "message", 0, 4).due(1, "message", 1, 4).due(2, "message", 3, 4).due(3, "message", 3, 7);
        run.due(0, "resend", 0, 0).due(1, "resend", 1, 0).due(3, "message", 2, 4).due(0, "count", 8);
    }

    private void resendOfPlainOnes() {
        Run run = oneLog("promise 15: all PLAIN CUT messages of a producer in a partition, not ABORTED ones", 2);
        run.make("topic", 1, 2, 0).make("send", 0, 0, 1, 1).make("begin", 0).make("send", 0, 0, 1, 1).due(2, "fail", 0);
        run.due(1, "resend", 0, 0).due(2, "message", 1, 0).due(1, "count", 8).due(0, "resend", 0, 1).due(1, "abort", 0);
    }

    // ======== promise 16

    private void beginOfNoProducer() {
        Run run = oneLog("promise 16: IndexOutOfBoundsException if there is no such producer", 1);
        run.noneOutside(0, 1, 0, "begin", 0).due(0, "begin", 1).due(1, "begin", 0);
    }

    private void beginTwice() {
        Run run = oneLog("promise 16: IllegalStateException if one of it goes on", 1);
        run.due(0, "begin", 0).state("begin", 0).due(1, "count", 7).make("commit", 0).due(1, "begin", 0).make("abort", 0);
        run.due(2, "begin", 0);
    }

    private void beginBehindABrokenOne() {
        Run run = broken("promise 16: IllegalStateException if one of it goes on (a broken one, too)");
        run.state("begin", 0).due(1, "count", 7).due(1, "begin", 1).due(1, "abort", 0).due(2, "begin", 0);
    }

    private void howManyBeganBefore() {
        Run run = oneLog("promise 16: returns how many transactions began before, of all producers: 0 at first", 1);
        run.due(0, "begin", 0).due(1, "begin", 1).state("begin", 1).make("abort", 0).make("commit", 1).due(2, "begin", 1);
        run.due(3, "begin", 0).due(2, "count", 7);
    }

    // ======== promise 17

    private void attachOfNoProducerGroupOrMember() {
        Run run = places("promise 17: IndexOutOfBoundsException if there is no such producer, group, or member in it");
        run.make("begin", 0).noneOutside(0, 1, 0, "attach", 0, 0, 0).noneOutside(0, 0, 1, "attach", 0, 0, 0);
        run.noneOutside(0, 0, 2, "attach", 0, 0, 0).due(2, "attach", 0, 0, 0).make("join", 0).make("leave", 0, 0);
        run.noneOutside(1, 1, 2, "attach", 0, 0, 0).due(0, "attach", 0, 0, 1);
    }

    private void attachWithoutATransaction() {
        Run run = places("promise 17: IllegalStateException if no transaction of the producer goes on");
        run.state("attach", 0, 0, 0).make("begin", 1).state("attach", 0, 0, 0).make("begin", 0).due(2, "attach", 0, 0, 0);
        run.make("abort", 0).state("attach", 0, 0, 0).make("begin", 0).make("commit", 0).state("attach", 0, 0, 0);
    }

    private void attachToABrokenTransaction() {
        Run run = broken("promise 17: IllegalStateException if it is broken");
        run.make("group", 2).make("join", 0).make("beat", 0, 0).state("attach", 0, 0, 0).make("abort", 0)
                .make("begin", 0);
        run.due(1, "attach", 0, 0, 0);
    }

    private void whichComesFirstInAttach() {
        Run run = places("promise 17: no such producer, group or member comes ahead of the state");
        run.noPlace("attach", 2, 0, 0).noPlace("attach", 0, 1, 0).noPlace("attach", 0, 0, 1).state("attach", 0, 0, 0);
    }

    private void attachOfNoPartitions() {
        Run run = places("promise 17: with none, nothing is attached, in place of what was");
        run.make("begin", 0).due(2, "attach", 0, 0, 0).make("join", 0).due(0, "attach", 0, 0, 1).make("leave", 0, 1);
        run.due(0, "commit", 0).due(0, "share", 0, 0, 2).due(0, "share", 0, 1, 2);
    }

    private void attachOfAllPartitions() {
        Run run = run("promise 17: returns how many partitions these are: all nine");
        run.make("topic", 3, 1, 0).make("topic", 3, 1, 0).make("topic", 3, 1, 0).make("producer").make("group", 7);
        run.make("join", 0).make("begin", 0).due(0, "attach", 0, 0, 0).due(9, "beat", 0, 0).make("credits", 0, 0, 9);
        for (int partition = 0; partition < 9; partition++) {
            run.make("send", 0, partition / 3, partition % 3, 1);
        }
        run.due(NONE, "read", 0, 0).make("abort", 0).make("begin", 0).due(9, "attach", 0, 0, 0).due(0, "commit", 0);
    }

    private void attachAnew() {
        Run run = places("promise 17: in place of those that are attached already, as they are now");
        run.make("begin", 0).due(2, "attach", 0, 0, 0).make("send", 1, 0, 1, 1).make("commit", 0)
                .due(2, "share", 0, 0, 2);
        run.due(1, "share", 0, 1, 2).make("begin", 0).due(2, "attach", 0, 0, 0).due(3, "read", 0, 0)
                .make("done", 0, 0, 3);
        run.due(0, "commit", 0).due(1, "share", 0, 1, 2).make("begin", 0).due(2, "attach", 0, 0, 0).make("join", 0);
        run.make("beat", 0, 0).due(1, "attach", 0, 0, 0).due(0, "commit", 0).due(1, "share", 0, 1, 2);
    }

    // ======== promise 18

    private void commitOfNoProducer() {
        Run run = oneLog("promise 18: IndexOutOfBoundsException if there is no such producer", 1);
        run.make("begin", 0).make("begin", 1).noneOutside(0, 1, 0, "commit", 0).due(0, "commit", 0).due(0, "commit", 1);
    }

    private void commitWithoutATransaction() {
        Run run = oneLog("promise 18: IllegalStateException if no transaction of it goes on", 1);
        run.state("commit", 0).make("begin", 1).state("commit", 0).due(0, "commit", 1).state("commit", 1);
    }

    private void commitOfABrokenTransaction() {
        Run run = broken("promise 18: IllegalStateException if it is broken");
        run.state("commit", 0).make("restore", 0).make("fetch", 0).state("commit", 0).due(1, "abort", 0)
                .state("commit", 0);
    }

    private void commitBelowTheHighWatermark() {
        Run run = oneLog("promise 18: IllegalStateException if one of its messages is not below the high watermark", 2);
        run.make("topic", 1, 2, 0).make("begin", 0).make("send", 0, 1, 1, 1).make("send", 0, 0, 1, 1).due(1, "fetch", 1);
        run.due(1, "partition", 0, 3).due(0, "partition", 1, 3).state("commit", 0).due(1, "fetch", 2);
        run.due(1, "partition", 1, 3).due(2, "commit", 0).due(2, "message", 0, 1).due(2, "message", 1, 1);
        Run last = oneLog("promise 18: one at the high watermark is not below it", 2);
        last.make("send", 1, 0, 1, 1).due(1, "fetch", 1).make("begin", 0).make("send", 0, 0, 1, 1).state("commit", 0);
        last.due(1, "fetch", 1).due(1, "commit", 0);
    }

    private void commitOfNothing() {
        Run run = oneLog("promise 18: returns how many messages it has: 0 without any", 2);
        run.make("send", 0, 0, 1, 1).make("begin", 0).make("sendLater", 0, 0, 1, 1, 1).due(0, "commit", 0);
        run.due(0, "message", 0, 1).due(0, "count", 7);
    }

    private void commitBehindAnotherGeneration() {
        String[] changes = {"join", "leave"};
        for (String change : changes) {
            Run run = places(
                    "promise 18: IllegalStateException if the generation of the group is another one: " + change);
            run.make("join", 0).make("begin", 0).due(2, "attach", 0, 0, 0);
            run = change.equals("join") ? run.make("join", 0) : run.make("leave", 0, 1);
            run.state("commit", 0).due(0, "share", 0, 0, 2).due(2, "attach", 0, 0, 0).due(0, "commit", 0);
            run.due(2, "share", 0, 0, 2).due(1, "share", 0, 1, 2);
        }
        Run expelled = places(
                "promise 18: IllegalStateException if the generation of the group is another one: expelled");
        expelled.make("join", 0).make("tick", 10).make("beat", 0, 0).make("begin", 0).due(1, "attach", 0, 0, 0);
        expelled.due(0, "share", 0, 0, 0).make("tick", 1).due(1, "ofGroup", 0, 1).state("commit", 0);
        expelled.due(1, "attach", 0, 0, 0).due(0, "commit", 0).due(2, "share", 0, 0, 2);
    }

    private void commitOfWhatIsOwnedNoMore() {
        Run run = places("promise 18: IllegalStateException if the member does not own one of these partitions any more");
        run.make("join", 0).make("begin", 0).due(2, "attach", 0, 0, 0).due(1, "beat", 0, 0).due(NONE, "share", 0, 1, 0);
        run.state("commit", 0).due(1, "beat", 0, 1).state("commit", 0).due(0, "share", 0, 0, 2);
        run.due(1, "attach", 0, 0, 0).due(0, "commit", 0).due(2, "share", 0, 0, 2).due(0, "share", 0, 1, 2);
    }

    private void commitOfPlacesThatAreNotMore() {
        Run run = places("promise 18: attached places become the committed offsets, where they are more than these");
        run.make("begin", 1).due(2, "attach", 1, 0, 0).make("send", 0, 0, 0, 1).due(3, "read", 0, 0)
                .make("done", 0, 0, 3);
        run.due(2, "commitOffsets", 0, 0).due(3, "share", 0, 0, 2).due(0, "commit", 1).due(3, "share", 0, 0, 2);
        run.due(1, "share", 0, 1, 2).make("send", 0, 0, 1, 1).due(4, "read", 0, 0).make("done", 0, 0, 4).make("begin", 1);
        run.due(2, "attach", 1, 0, 0).due(0, "commit", 1).due(3, "share", 0, 0, 2).due(2, "share", 0, 1, 2);
    }

    // ======== promise 19

    private void abortOfNoProducer() {
        Run run = oneLog("promise 19: IndexOutOfBoundsException if there is no such producer", 1);
        run.make("begin", 0).make("begin", 1).noneOutside(0, 1, 0, "abort", 0).due(0, "abort", 0).due(0, "abort", 1);
    }

    private void abortWithoutATransaction() {
        Run run = oneLog("promise 19: IllegalStateException if no transaction of it goes on", 1);
        run.state("abort", 0).make("begin", 1).state("abort", 0).make("begin", 0).due(0, "abort", 0).state("abort", 0);
    }

    private void abortOfNothing() {
        Run run = oneLog("promise 19: returns how many messages it has: 0 without any", 1);
        run.make("send", 0, 0, 1, 1).make("begin", 0).due(0, "abort", 0).due(0, "message", 0, 1).due(0, "count", 7);
    }

    private void abortForgetsPlaces() {
        Run run = places("promise 19: attached places are forgotten");
        run.make("begin", 0).due(2, "attach", 0, 0, 0).due(0, "abort", 0).due(0, "share", 0, 0, 2).make("begin", 0);
        run.due(0, "commit", 0).due(0, "share", 0, 0, 2).due(0, "share", 0, 1, 2);
    }

    private void placesOfABrokenTransaction() {
        Run run = broken(
                "Terms: the offsets attached to a transaction are committed if and only if it is: not a broken one's");
        run.make("abort", 0).make("group", 1).make("join", 0).make("beat", 0, 0).make("send", 1, 0, 1, 1);
        run.due(1, "read", 0, 0).make("done", 0, 0, 1).make("restore", 0).due(1, "fetch", 0).make("begin", 0);
        run.due(1, "attach", 0, 0, 0).make("send", 0, 0, 1, 1).due(1, "fail", 1).state("commit", 0).due(1, "abort", 0);
        run.due(0, "share", 0, 0, 2).make("begin", 0).due(0, "commit", 0).due(0, "share", 0, 0, 2);
    }

    private void aMessageThatIsCutBreaksTheTransaction() {
        Run run = broken(
                "Terms: if a message of it is cut, it is broken: all its messages are ABORTED, and it can only be aborted");
        run.state("commit", 0).state("begin", 0).state("send", 0, 1, 1, 1).due(1, "count", 7).due(1, "abort", 0);
        Run one = run("Terms: one message that is cut is enough; those of other partitions stay, ABORTED");
        one.make("topic", 1, 2, 0).make("topic", 1, 1, 0).make("producer").make("speed", 0).make("begin", 0);
        one.make("send", 0, 1, 1, 1).make("send", 0, 0, 1, 1).make("send", 0, 1, 1, 1).due(0, "partition", 1, 4);
        one.due(1, "fail", 0).due(3, "message", 0, 1).due(3, "message", 2, 1).due(1, "message", 2, 0);
        one.due(2, "partition", 1, 4).due(0, "message", 0, 8).due(3, "abort", 0);
    }

    private void theStableOffset() {
        Run run = oneLog(
                "Terms: the least offset of an OPEN message in it, or the high watermark, if that is less or there is none", 2);
        run.due(0, "partition", 0, 4).times(2, "send", 1, 0, 1, 1).make("begin", 0).make("send", 0, 0, 1, 1);
        run.due(0, "partition", 0, 4).due(3, "fetch", 1).due(2, "partition", 0, 4).make("send", 0, 0, 1, 1);
        run.due(1, "message", 1, 8).due(0, "message", 2, 8).due(1, "fetch", 1).due(2, "partition", 0, 4)
                .due(2, "commit", 0);
        run.due(4, "partition", 0, 4).due(1, "message", 3, 8).make("begin", 0).make("send", 0, 0, 1, 1);
        run.due(4, "partition", 0, 4).due(1, "abort", 0).due(4, "partition", 0, 4).due(1, "fetch", 1)
                .due(5, "partition", 0, 4);
    }
}
