/** Promise 9 and the terms 'Ticks': a test for each sentence that names a boundary. */
public final class TickBoundsTest {
    private static final int NONE = -1;
    private final Check check = new Check();

    public static void main(String[] args) throws ReflectiveOperationException {
        TickBoundsTest tests = new TickBoundsTest();
        tests.check.runAll(tests);
    }

    private Run run(String about) {
        return new Run(check, about);
    }

    /** One partition with as many replicas, and two producers. */
    private Run oneLog(String about, int replicas) {
        return run(about).make("topic", 1, replicas, 0).make("producer").make("producer");
    }

    private void howManyTicks() {
        Run run = run("promise 9: ticks: 1 to 30; returns the tick of now");
        run.badOutside(1, 30, 0, "tick", 0).due(1, "tick", 1).due(31, "tick", 30).due(31, "count", 5);
        run.badOutside(1, 30, 0, "tick", 0);
    }

    private void nothingToDo() {
        Run run = run("promise 9: ticks pass with nothing there, and with empty topics and groups");
        run.due(30, "tick", 30).make("topic", 3, 3, 0).make("topic", 3, 1, 1).make("producer").make("group", 3);
        run.due(60, "tick", 30).due(0, "partition", 5, 6).due(0, "ofGroup", 0, 0).due(1, "audit", 6);
    }

    private void theMostTicks() {
        Run run = run("What it is: an object is used for at most 512 calls: the greatest tick there can be");
        run.times(511, "tick", 30).due(15360, "tick", 30);
    }

    // ======== (1) WAITING messages

    private void delayedMessagesThatAreDue() {
        Run run = oneLog("Ticks (1): WAITING messages that are due: in 1 tick, in 50, not in 49", 1);
        run.make("tick", 3).make("sendLater", 0, 0, 1, 1, 1).make("sendLater", 0, 0, 1, 1, 50).due(2, "count", 9);
        run.make("tick", 1).due(1, "message", 0, 0).due(4, "message", 0, 7).due(1, "count", 9).make("tick", 30);
        run.make("tick", 18).due(0, "message", 1, 0).due(NONE, "message", 1, 4).due(NONE, "message", 1, 7)
                .make("tick", 1);
        run.due(1, "message", 1, 0).due(53, "message", 1, 7).due(1, "message", 1, 4).due(0, "count", 9);
    }

    private void theOrderOfDelayedMessages() {
        Run run = oneLog("Ticks (1): by their due ticks, then their numbers", 1);
        int[] delays = {4, 2, 4, 3, 2, 1};
        for (int delay : delays) {
            run.make("sendLater", 0, 0, 1, 1, delay);
        }
        run.make("fail", 0).make("tick", 5).due(6, "count", 9).make("restore", 0).make("tick", 1).due(0, "count", 9);
        int[] order = {5, 1, 4, 3, 0, 2};
        for (int offset = 0; offset < order.length; offset++) {
            run.due(order[offset], "at", 0, offset).due(6, "message", offset, 7);
        }
    }

    private void delayedMessagesNeedALeader() {
        Run run = oneLog("Ticks (1): if its partition has a leader; otherwise it is tried again in each tick", 1);
        run.make("sendLater", 0, 0, 1, 1, 1).make("fail", 0).make("tick", 1).due(0, "message", 0, 0).make("tick", 30);
        run.due(0, "message", 0, 0).make("restore", 0).due(0, "message", 0, 0).make("tick", 1).due(1, "message", 0, 0);
        run.due(32, "message", 0, 7);
    }

    private void delayedMessagesNeedAnEndBelow60() {
        Run run = run("Ticks (1): .. with an end below 60; otherwise it stays WAITING, and is tried again in each tick");
        run.make("topic", 1, 2, 0).make("speed", 0).times(4, "producer");
        for (int producer = 0; producer <= 2; producer++) {
            run.make("quota", producer, 20).times(producer < 2 ? 20 : 19, "send", producer, 0, 1, 1);
        }
        run.times(2, "sendLater", 3, 0, 1, 1, 1).make("tick", 1).due(59, "message", 59, 4).due(1, "message", 59, 0);
        run.due(0, "message", 60, 0).due(60, "partition", 0, 6).make("tick", 1).due(0, "message", 60, 0);
        run.due(60, "fail", 0).make("tick", 1).due(2, "message", 59, 0).due(0, "message", 60, 0).due(1, "resend", 3, 0);
        run.make("tick", 1).due(1, "message", 60, 0).due(1, "message", 60, 4);
    }

    private void delayedMessagesBehindCutOnes() {
        Run run = run("Ticks (1): .. and its producer has no PLAIN CUT message in that partition");
        run.make("topic", 2, 2, 0).make("producer").make("producer").make("speed", 0).make("send", 0, 0, 0, 1);
        run.due(1, "fail", 0).make("sendLater", 0, 0, 0, 1, 1).make("sendLater", 0, 0, 1, 1, 1);
        run.make("sendLater", 1, 0, 0, 1, 1).make("tick", 1).due(0, "message", 1, 0).due(1, "message", 2, 0);
        run.due(1, "message", 3, 0).make("tick", 2).due(0, "message", 1, 0).due(1, "resend", 0, 0).make("tick", 1);
        run.due(1, "message", 1, 0).due(4, "message", 1, 7).due(2, "message", 1, 4);

        Run aborted = oneLog("Ticks (1): an ABORTED CUT message holds none up", 2);
        aborted.make("begin", 0).make("send", 0, 0, 1, 1).make("sendLater", 0, 0, 1, 1, 1).due(1, "fail", 0)
                .make("tick", 1);
        aborted.due(3, "message", 0, 1).due(2, "message", 0, 0).due(1, "message", 1, 0).due(0, "message", 1, 1);
    }

    private void delayedMessagesThatAreCut() {
        Run run = oneLog("Ticks (1): a delayed message that was cut is PLAIN and CUT, and no longer WAITING", 2);
        run.make("speed", 0).make("sendLater", 0, 0, 1, 1, 1).make("tick", 1).due(1, "fail", 0).due(2, "message", 0, 0);
        run.due(1, "message", 0, 7).make("tick", 2).due(2, "message", 0, 0).state("send", 0, 0, 1, 1)
                .due(1, "resend", 0, 0);
        run.due(1, "message", 0, 0).due(3, "message", 0, 7).due(0, "message", 0, 4);
    }

    // ======== (2), (3) replicas

    private void replicasCopy() {
        Run run = oneLog("Ticks (2): its end becomes the speed more (2 at first), but at most the leader's end", 2);
        run.times(5, "send", 0, 0, 1, 1).make("tick", 1).due(2, "replica", 0, 1, 1).make("tick", 2)
                .due(5, "replica", 0, 1, 1);
        run.make("tick", 1).due(5, "replica", 0, 1, 1).due(5, "partition", 0, 6);
        Run none = oneLog("Ticks (2): with the speed 0 none is copied", 2);
        none.make("speed", 0).make("send", 0, 0, 1, 1).make("tick", 3).due(0, "replica", 0, 1, 1);
        Run most = oneLog("Ticks (2): with the speed 9, nine of ten", 2);
        most.make("speed", 9).times(10, "send", 0, 0, 1, 1).make("tick", 1).due(9, "replica", 0, 1, 1)
                .due(9, "partition", 0, 3);
    }

    private void replicasThatDoNotCopy() {
        Run run = oneLog("Ticks (2): each other replica on a live broker, in each partition that has a leader", 3);
        run.times(4, "send", 0, 0, 1, 1).make("fail", 1).make("tick", 1).due(0, "replica", 0, 1, 1)
                .due(2, "replica", 0, 2, 1);
        run.make("fail", 2).make("fail", 0).make("restore", 2).make("tick", 2).due(2, "replica", 0, 2, 1);
        run.due(4, "replica", 0, 0, 1).due(0, "replica", 0, 2, 2).due(1, "partition", 0, 2);
    }

    private void caughtUpAtTheLeadersEnd() {
        Run run = oneLog("Ticks (3): if its end is the leader's end, its caught-up tick is now; a leader's stays", 2);
        run.make("tick", 4).due(4, "replica", 0, 1, 2).due(0, "replica", 0, 0, 2).times(3, "send", 0, 0, 1, 1)
                .make("tick", 1);
        run.due(2, "replica", 0, 1, 1).due(4, "replica", 0, 1, 2).make("tick", 1).due(6, "replica", 0, 1, 2);
    }

    private void replicasLeaveBehindThreeTicks() {
        Run run = oneLog("Ticks (3): it leaves if its caught-up tick is more than 3 ticks ago", 2);
        run.make("speed", 0).make("tick", 5).make("send", 0, 0, 1, 1).make("tick", 3).due(3, "partition", 0, 2);
        run.due(0, "partition", 0, 3).make("tick", 1).due(1, "partition", 0, 2).due(1, "partition", 0, 3);
        run.due(5, "replica", 0, 1, 2);
    }

    private void replicasJoinAtTheLeadersEnd() {
        Run run = oneLog("Ticks (3): .. and it joins the in-sync set: at the leader's end, not one below", 2);
        run.make("speed", 0).times(2, "send", 0, 0, 1, 1).make("tick", 4).due(1, "partition", 0, 2).make("speed", 1);
        run.make("tick", 1).due(1, "replica", 0, 1, 1).due(1, "partition", 0, 2).due(0, "replica", 0, 1, 2)
                .make("tick", 1);
        run.due(2, "replica", 0, 1, 1).due(3, "partition", 0, 2).due(6, "replica", 0, 1, 2).due(2, "partition", 0, 3);
    }

    private void theHighWatermarkNeverFalls() {
        Run run = oneLog("Terms: the high watermark never falls, when a replica joins or leads again", 2);
        run.times(3, "send", 0, 0, 1, 1).make("fail", 1).due(3, "partition", 0, 3).make("restore", 1).make("tick", 1);
        run.due(3, "partition", 0, 3).due(2, "replica", 0, 1, 1).make("tick", 1).due(3, "partition", 0, 2);
        run.due(3, "partition", 0, 3).make("fail", 0).due(3, "partition", 0, 3).make("fail", 1).due(3, "partition", 0, 3);
    }

    private void aDelayedMessageIsCopiedInItsTick() {
        Run run = oneLog("Ticks: in this order: what (1) appends is copied in (2), and in sync in (3)", 2);
        run.make("sendLater", 0, 0, 1, 1, 4).make("tick", 4).due(1, "replica", 0, 1, 1).due(4, "replica", 0, 1, 2);
        run.due(1, "message", 0, 8);
    }

    // ======== (4) retention

    private void retentionBySize() {
        Run run = oneLog("Ticks (4): more STORED messages in it than the topic's size", 1);
        run.make("retain", 0, 999, 2).times(2, "send", 0, 0, 1, 1).make("tick", 1).due(2, "partition", 0, 7);
        run.due(0, "partition", 0, 5).make("send", 0, 0, 1, 1).due(3, "partition", 0, 7).make("tick", 1);
        run.due(2, "partition", 0, 7).due(1, "partition", 0, 5).due(3, "message", 0, 0).due(0, "message", 0, 4);
        run.make("retain", 0, 999, 1).make("tick", 1).due(1, "partition", 0, 7).due(1, "message", 2, 0);
    }

    private void retentionByAge() {
        Run run = oneLog("Ticks (4): that message was appended more than the topic's age ago", 1);
        run.make("retain", 0, 4, 60).make("tick", 1).make("send", 0, 0, 1, 1).make("tick", 4).due(1, "partition", 0, 7);
        run.make("tick", 1).due(0, "partition", 0, 7).due(1, "partition", 0, 5).due(1, "partition", 0, 6);
        Run zero = oneLog("Ticks (4): with the age 0 a message stays in its own tick only", 1);
        zero.make("retain", 0, 0, 60).make("sendLater", 0, 0, 1, 1, 1).make("tick", 1).due(1, "partition", 0, 7);
        zero.make("tick", 1).due(0, "partition", 0, 7);
    }

    private void retentionAsLongAs() {
        Run run = oneLog(
                "Ticks (4): as long as its first STORED message ..: several at once, and not those behind one that stays", 1);
        run.make("retain", 0, 2, 60).times(3, "send", 0, 0, 1, 1).make("tick", 1).make("send", 0, 0, 1, 1)
                .make("tick", 2);
        run.due(3, "partition", 0, 5).due(1, "partition", 0, 7).make("retain", 0, 0, 60).make("tick", 1);
        run.due(4, "partition", 0, 5).due(0, "partition", 0, 7).make("tick", 1).due(4, "partition", 0, 5);
    }

    private void retentionOfAnEmptyLog() {
        Run run = oneLog("Ticks (4): an empty log has no first STORED message", 1);
        run.make("retain", 0, 0, 1).make("tick", 3).due(0, "partition", 0, 5).make("send", 0, 0, 1, 1).make("tick", 1);
        run.due(1, "partition", 0, 5).make("tick", 3).due(1, "partition", 0, 5).due(1, "partition", 0, 6);
    }

    private void retentionOfAFullLog() {
        Run run = oneLog("Ticks (4): a full log, down to its last message", 1);
        run.make("producer").make("retain", 0, 999, 1);
        for (int producer = 0; producer <= 2; producer++) {
            run.make("quota", producer, 20).times(20, "send", producer, 0, 1, 1);
        }
        run.make("tick", 1).due(59, "partition", 0, 5).due(1, "partition", 0, 7).due(60, "partition", 0, 6);
        run.state("send", 0, 0, 1, 1).make("retain", 0, 0, 1).make("tick", 1).due(60, "partition", 0, 5);
        run.due(0, "partition", 0, 7).due(60, "partition", 0, 6).due(60, "offsetAt", 0, 0);
    }

    private void retentionEndsAtTheStableOffset() {
        Run run = oneLog("Ticks (4): stands below the stable offset: not one at the high watermark", 2);
        run.make("speed", 1).make("retain", 0, 0, 1).times(2, "send", 0, 0, 1, 1).make("tick", 1)
                .due(1, "partition", 0, 5);
        run.due(1, "partition", 0, 7).due(1, "partition", 0, 4);
        Run open = oneLog("Ticks (4): stands below the stable offset: not an OPEN one, nor those behind it", 1);
        open.make("retain", 0, 0, 1).make("send", 0, 0, 1, 1).make("begin", 1).make("send", 1, 0, 1, 1);
        open.make("send", 0, 0, 1, 1).make("tick", 2).due(1, "partition", 0, 5).due(2, "partition", 0, 7);
        open.make("abort", 1).due(2, "partition", 0, 7).make("tick", 1).due(3, "partition", 0, 5);
    }

    private void retentionOfACompactedTopic() {
        Run run = run("Ticks (4): in each partition of a topic that is not compacted");
        run.make("topic", 1, 1, 1).make("producer").make("send", 0, 0, 1, 1).times(34, "tick", 30);
        run.due(1, "partition", 0, 7).due(0, "partition", 0, 5);
    }

    private void retentionIsBehindCopying() {
        Run run = oneLog("Ticks: in this order: what (2) makes readable is REMOVED in (4)", 2);
        run.make("retain", 0, 0, 60).times(2, "send", 0, 0, 1, 1).make("tick", 1).due(2, "partition", 0, 5);
    }

    // ======== (5) members

    private void silentMembersAreExpelled() {
        Run run = run("Ticks (5): whose latest beat is more than 10 ticks ago: not in the 10th, but in the 11th");
        run.make("topic", 2, 1, 0).make("group", 1).make("tick", 2).make("join", 0).make("beat", 0, 0).make("tick", 10);
        run.due(1, "ofGroup", 0, 1).due(1, "ofGroup", 0, 0).make("beat", 0, 0).make("tick", 10).due(1, "ofGroup", 0, 1);
        run.make("tick", 1).due(0, "ofGroup", 0, 1).due(2, "ofGroup", 0, 0).due(NONE, "share", 0, 0, 0);
        run.due(NONE, "share", 0, 0, 1).noPlace("beat", 0, 0).noPlace("read", 0, 0).due(1, "join", 0);
    }

    private void toJoinIsToBeat() {
        Run run = run("Ticks (5): to join is to beat for the first time, but for giving up and taking");
        run.make("topic", 1, 1, 0).make("group", 1).make("tick", 5).make("join", 0).due(5, "member", 0, 0, 4);
        run.due(0, "member", 0, 0, 0).make("tick", 10).due(1, "ofGroup", 0, 1).make("tick", 1).due(0, "ofGroup", 0, 1);
    }

    private void onlyBeatsCount() {
        Run run = run("promise 25: to read is no beat; nor is to commit offsets, or to set credits");
        run.make("topic", 1, 1, 0).make("group", 1).make("join", 0).make("beat", 0, 0).make("tick", 10);
        run.make("read", 0, 0).make("commitOffsets", 0, 0).make("credits", 0, 0, 3).due(0, "member", 0, 0, 4);
        run.make("tick", 1).due(0, "ofGroup", 0, 1);
    }

    private void severalAreExpelledInATick() {
        Run run = run("Ticks (5): in each group, rising, each member, rising");
        run.make("topic", 3, 1, 0).make("group", 1).make("group", 1).times(3, "join", 0).times(2, "join", 1);
        run.make("beat", 0, 0).make("tick", 4).make("beat", 0, 1).make("beat", 1, 0).make("tick", 7);
        run.due(2, "ofGroup", 0, 1).due(5, "ofGroup", 0, 0).due(1, "ofGroup", 1, 1).due(3, "ofGroup", 1, 0);
        run.due(3, "member", 0, 1, 1).due(0, "ofGroup", 0, 5).due(3, "member", 1, 0, 1).make("tick", 4);
        run.due(0, "ofGroup", 0, 1).due(0, "ofGroup", 1, 1).due(6, "ofGroup", 0, 0);
    }

    private void theExpelledAreDealtOneByOne() {
        Run run = run("Ticks (5): each member, rising, is expelled: the targets are dealt behind each, not behind all");
        run.make("topic", 2, 1, 0).make("group", 1).times(4, "join", 0).due(0, "share", 0, 0, 1).due(1, "share", 0, 1, 1);
        run.make("tick", 1).make("beat", 0, 2).make("beat", 0, 3).make("tick", 10).due(12, "ofGroup", 0, 1);
        run.due(2, "share", 0, 0, 1).due(3, "share", 0, 1, 1).due(6, "ofGroup", 0, 0);
    }

    private void whatTheExpelledHad() {
        Run run = run("Ticks (5): an expelled member gives up all that it owns at once: the rows are due in that tick");
        run.make("topic", 1, 1, 0).make("producer").make("group", 1).make("join", 0).make("beat", 0, 0);
        run.make("send", 0, 0, 1, 1).make("send", 0, 0, 2, 1).times(2, "read", 0, 0).make("retry", 0, 0, 0)
                .make("tick", 2);
        run.due(0, "read", 0, 0).make("tick", 8).due(2, "member", 0, 0, 3).make("tick", 1).due(1, "ofGroup", 0, 3);
        run.dueEach(new int[] {0, 11, 1}, "waits", 0, 0).noPlace("waits", 0, 1, 0);
    }

    // ======== (6) producers

    private void whatWasSentIsNothing() {
        Run run = oneLog("Ticks (6): what the producers have sent in the tick is 0", 1);
        run.times(10, "send", 0, 0, 1, 1).state("send", 0, 0, 1, 1).make("quota", 1, 1).make("send", 1, 0, 1, 1);
        run.state("send", 1, 0, 1, 1).make("tick", 1).times(10, "send", 0, 0, 1, 1).state("send", 0, 0, 1, 1);
        run.make("send", 1, 0, 1, 1).state("send", 1, 0, 1, 1).make("tick", 30).due(10, "sendSome", 0, 0, 12, 1);
    }
}
