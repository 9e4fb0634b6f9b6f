/** Promises 1 to 9: a new object, topics, brokers, ticks. */
public final class TopicsTest {
    private static final int MIN = Integer.MIN_VALUE;
    private static final int MAX = Integer.MAX_VALUE;
    private static final int NONE = -1;
    private final Check check = new Check();

    public static void main(String[] args) {
        TopicsTest test = new TopicsTest();
        test.newObject();
        test.topics();
        test.retain();
        test.retention();
        test.compact();
        test.compactStopsAtTheStableOffset();
        test.fail();
        test.cutsCountWhenRestored();
        test.failOfAFollower();
        test.restore();
        test.fetch();
        test.speed();
        test.tick();
        test.tickDelayed();
        test.tickReplicas();
        test.tickOrder();
        test.check.end();
    }

    private Run run(String about) {
        return new Run(check, about);
    }

    private void newObject() {
        Run run = run("promise 1");
        int[] counts = {0, 0, 0, 0, 0, 0, 7, 0, 0, 0};
        for (int what = 0; what < counts.length; what++) {
            run.due(counts[what], "count", what);
        }
        for (int part = 0; part <= 6; part++) {
            run.due(1, "audit", part);
        }
        run.due(17, "digest").noPlace("partition", 0, 0).noPlace("message", 0, 0).noPlace("ofGroup", 0, 0);
        run.noPlace("value", 0, 0).noPlace("begin", 0).due(0, "fetch", 0).due(1, "tick", 1);
    }

    private void topics() {
        Run run = run("promise 2");
        for (int wrong : new int[] {MIN, -1, 0, 4, MAX}) {
            run.bad("topic", wrong, 1, 0).bad("topic", 1, wrong, 1);
        }
        run.due(0, "topic", 2, 3, 0).due(1, "topic", 3, 2, 1).due(2, "topic", 1, 1, 0);
        run.due(3, "count", 0).due(6, "count", 1);
        run.state("topic", 1, 1, 0).bad("topic", 0, 1, 0).bad("topic", 1, 4, 0);
        int[] topicOf = {0, 0, 1, 1, 1, 2};
        int[] brokerOf = {0, 1, 1, 2, 0, 2};
        int[] inSync = {7, 7, 3, 3, 3, 1};
        for (int p = 0; p < 6; p++) {
            run.due(topicOf[p], "partition", p, 0).due(0, "partition", p, 1).due(inSync[p], "partition", p, 2);
            run.due(brokerOf[p], "replica", p, 0, 0).due(0, "replica", p, 0, 1);
        }
        run.due(1, "replica", 0, 1, 0).due(2, "replica", 0, 2, 0).due(0, "replica", 1, 2, 0);
        run.due(0, "replica", 3, 1, 0).noPlace("replica", 3, 2, 0).noPlace("replica", 5, 1, 0);
        run.state("compact", 0).due(0, "compact", 2).state("compact", 5);

        Run dead = run("promise 2, a broker that is not live");
        dead.make("fail", 2).state("topic", 1, 1, 0).bad("topic", 4, 1, 0).due(0, "restore", 2);
        dead.make("tick", 7).due(0, "topic", 1, 2, 0).due(7, "replica", 0, 0, 2).due(7, "replica", 0, 1, 2);
    }

    private void retain() {
        Run run = run("promise 3");
        run.make("topic", 1, 1, 0).make("topic", 1, 1, 1);
        run.due(999, "retain", 0, 0, 1).due(0, "retain", 0, 999, 60).due(999, "retain", 0, 5, 6).due(5, "retain", 0, 5, 6);
        for (int topic : new int[] {MIN, -1, 2, MAX}) {
            run.noPlace("retain", topic, 1, 1).noPlace("retain", topic, -1, 1);
        }
        for (int age : new int[] {MIN, -1, 1000, MAX}) {
            run.bad("retain", 0, age, 1).bad("retain", 1, age, 1);
        }
        for (int size : new int[] {MIN, -1, 0, 61, MAX}) {
            run.bad("retain", 0, 1, size).bad("retain", 1, 1, size);
        }
        run.state("retain", 1, 1, 1).due(5, "retain", 0, 1, 1);
    }

    private void retention() {
        Run run = run("promise 9, retention by size");
        run.make("topic", 1, 2, 0).make("producer").make("retain", 0, 999, 2);
        run.times(5, "send", 0, 0, 1, 7).make("speed", 1).make("begin", 0).make("tick", 3);
        run.due(3, "partition", 0, 3).due(3, "partition", 0, 5).due(2, "partition", 0, 7);
        run.due(3, "message", 2, 0).due(2, "message", 2, 4).due(1, "message", 3, 0).due(NONE, "at", 0, 2).due(3, "at", 0, 3);
        run.due(3, "offsetAt", 0, 0);

        Run age = run("promise 9, retention by age");
        age.make("topic", 1, 1, 0).make("producer").make("retain", 0, 3, 60).make("send", 0, 0, 1, 7).make("tick", 1);
        age.make("begin", 0).make("send", 0, 0, 1, 8).make("tick", 2).due(2, "partition", 0, 7);
        age.make("tick", 1).due(1, "partition", 0, 7).due(1, "partition", 0, 5).make("tick", 9).due(1, "partition", 0, 7);
        age.make("commit", 0).due(1, "partition", 0, 7).make("tick", 1).due(0, "partition", 0, 7);
        age.due(2, "partition", 0, 5).due(2, "partition", 0, 6).due(2, "offsetAt", 0, 0);

        Run kept = run("promise 9, a compacted topic retains");
        kept.make("topic", 1, 1, 1).make("producer").make("send", 0, 0, 1, 1).times(34, "tick", 30);
        kept.due(1, "partition", 0, 7).due(0, "partition", 0, 5);

        Run late = run("promise 9, age 999");
        late.make("topic", 1, 1, 0).make("producer").make("send", 0, 0, 1, 1).times(33, "tick", 30).make("tick", 9);
        late.due(1, "partition", 0, 7).make("tick", 1).due(0, "partition", 0, 7);

        Run noLeader = run("promise 9, retention without a leader");
        noLeader.make("topic", 1, 1, 0).make("producer").times(3, "send", 0, 0, 1, 1).make("retain", 0, 999, 1);
        noLeader.make("fail", 0).make("tick", 1).due(1, "partition", 0, 7).due(2, "partition", 0, 5);
    }

    private void compact() {
        Run run = run("promise 4");
        run.make("topic", 2, 1, 1).make("topic", 1, 1, 0).make("producer");
        for (int p : new int[] {MIN, -1, 3, MAX}) {
            run.noPlace("compact", p);
        }
        run.state("compact", 2).due(0, "compact", 0);
        run.make("send", 0, 0, -2, 1).make("send", 0, 0, 0, 2).make("send", 0, 0, -2, 3).make("send", 0, 0, 0, NONE);
        run.make("send", 0, 0, 4, NONE).make("send", 0, 0, 1, 5).make("send", 0, 0, 4, 6);
        run.due(3, "compact", 0).due(0, "compact", 0).due(0, "compact", 1);
        run.due(3, "value", 0, -2).due(NONE, "value", 0, 0).due(6, "value", 0, 4).due(5, "value", 0, 1);
        run.due(3, "message", 0, 0).due(0, "message", 0, 4).due(1, "message", 2, 0).due(3, "message", 4, 0);
        run.due(0, "partition", 0, 5).due(3, "partition", 0, 7).due(6, "partition", 0, 6);
        run.make("tick", 20).due(0, "compact", 0).make("tick", 1).due(1, "compact", 0).due(3, "message", 3, 0);
        run.due(1, "message", 6, 0).due(2, "partition", 0, 7).due(1, "audit", 6);
        run.make("send", 0, 0, 4, NONE).make("tick", 20).due(1, "compact", 0).make("tick", 1).due(1, "compact", 0);
    }

    private void compactStopsAtTheStableOffset() {
        Run run = run("promise 4, the stable offset");
        run.make("topic", 1, 2, 1).make("producer").make("producer").make("begin", 1);
        run.make("send", 1, 0, 1, 1).make("abort", 1).make("send", 0, 0, 2, 2).make("send", 0, 0, 2, 3);
        run.due(0, "compact", 0).make("fetch", 1).due(3, "partition", 0, 4).due(2, "compact", 0);
        run.due(3, "message", 0, 0).due(3, "message", 1, 0).due(1, "message", 2, 0);
        run.make("begin", 1).make("send", 1, 0, 2, 4).make("send", 0, 0, 2, 5).make("fetch", 1);
        run.due(3, "partition", 0, 4).due(0, "compact", 0).due(3, "value", 0, 2);
        run.make("commit", 1).due(5, "partition", 0, 4).make("fail", 0).make("fail", 1).due(2, "compact", 0);
        run.due(5, "value", 0, 2).due(1, "partition", 0, 7);
    }

    private void fail() {
        Run run = run("promise 5");
        run.make("topic", 1, 3, 0).make("producer").make("speed", 0).times(3, "send", 0, 0, 1, 1).due(3, "fetch", 1);
        for (int broker : new int[] {MIN, -1, 3, MAX}) {
            run.noPlace("fail", broker);
        }
        run.due(0, "partition", 0, 3).due(0, "fail", 0).state("fail", 0).due(6, "count", 6);
        run.due(1, "partition", 0, 1).due(6, "partition", 0, 2).due(3, "partition", 0, 6).due(0, "partition", 0, 3);
        run.due(3, "fail", 1).due(2, "partition", 0, 1).due(4, "partition", 0, 2).due(0, "partition", 0, 6);
        run.due(3, "count", 8).due(2, "message", 1, 0).due(NONE, "message", 1, 4).due(0, "message", 1, 7);
        run.due(0, "replica", 0, 0, 1).due(0, "replica", 0, 1, 1).due(4, "count", 6).due(NONE, "at", 0, 0);
        run.due(0, "fail", 2).due(NONE, "partition", 0, 1).due(4, "partition", 0, 2).due(0, "count", 6);

        Run alone = run("promise 5, no other in sync");
        alone.make("topic", 1, 3, 0).make("producer").make("fail", 1).make("fail", 2).make("send", 0, 0, 1, 1);
        alone.make("restore", 1).due(1, "partition", 0, 2).due(1, "partition", 0, 3).due(0, "fail", 0);
        alone.due(NONE, "partition", 0, 1).due(1, "partition", 0, 2).due(1, "partition", 0, 6).due(1, "partition", 0, 3);
        alone.due(0, "fail", 1).due(1, "partition", 0, 2).due(1, "message", 0, 0).due(1, "message", 0, 8);

        Run open = run("promise 5, a cut transaction breaks");
        open.make("topic", 2, 2, 0).make("producer").make("begin", 0).make("send", 0, 0, 0, 1).make("send", 0, 0, 1, 2);
        open.due(1, "fetch", 2).due(0, "partition", 1, 4).due(1, "fail", 0).due(3, "message", 0, 1).due(3, "message", 1, 1).due(1, "message", 1, 0).due(1, "count", 8);
        open.due(1, "partition", 1, 3).due(1, "partition", 1, 4).due(0, "message", 1, 8).due(0, "resend", 0, 0);
    }

    private void cutsCountWhenRestored() {
        Run run = run("promise 5, ends on brokers that are not live");
        run.make("topic", 1, 3, 0).make("producer").make("producer").make("speed", 0).times(4, "send", 0, 0, 1, 1);
        run.due(4, "fetch", 1).due(4, "fetch", 2).times(2, "send", 0, 0, 1, 1).due(2, "fetch", 2).due(0, "fail", 2);
        run.due(6, "replica", 0, 2, 1).due(2, "fail", 0).due(1, "partition", 0, 1).due(4, "replica", 0, 2, 1);
        run.due(4, "replica", 0, 0, 1).times(3, "send", 1, 0, 1, 1).due(4, "replica", 0, 2, 1);
        run.due(0, "restore", 2).due(4, "replica", 0, 2, 1).due(2, "partition", 0, 2).due(7, "partition", 0, 6);
        run.due(3, "fetch", 2).due(6, "partition", 0, 2).due(0, "restore", 0).due(3, "fetch", 0).due(7, "partition", 0, 2);
        run.due(1, "audit", 6);
    }

    private void failOfAFollower() {
        Run run = run("promise 5, a follower");
        run.make("topic", 1, 2, 0).make("producer").times(2, "send", 0, 0, 1, 1).due(0, "partition", 0, 3);
        run.due(0, "fail", 1).due(2, "partition", 0, 3).due(1, "partition", 0, 2).due(0, "partition", 0, 1);
        run.due(0, "fail", 2).due(1, "partition", 0, 2).due(0, "restore", 1).due(1, "partition", 0, 2);
        run.make("tick", 1).due(3, "partition", 0, 2).due(1, "replica", 0, 1, 2);
        Run behind = run("promise 5, a follower behind a leader that is not the least");
        behind.make("topic", 1, 3, 0).make("producer").due(0, "fail", 0).due(0, "restore", 0).due(0, "fetch", 0);
        behind.make("speed", 0).make("send", 0, 0, 1, 1).due(0, "fail", 2).due(1, "partition", 0, 1);
        behind.due(3, "partition", 0, 2).due(1, "partition", 0, 6).due(1, "fail", 1).due(0, "partition", 0, 1);
    }

    private void restore() {
        Run run = run("promise 6");
        run.make("topic", 3, 1, 0);
        for (int broker : new int[] {MIN, -1, 3, MAX}) {
            run.noPlace("restore", broker);
        }
        run.state("restore", 0).make("fail", 0).make("fail", 1).due(4, "count", 6).due(1, "restore", 0).state("restore", 0);
        run.due(5, "count", 6).due(0, "partition", 0, 1).due(NONE, "partition", 1, 1).due(1, "restore", 1);
        Run many = run("promise 6, several partitions");
        many.make("topic", 1, 1, 0).make("topic", 3, 1, 0).make("topic", 2, 2, 0).make("fail", 0).due(2, "restore", 0);
        many.due(0, "partition", 4, 1).due(1, "partition", 4, 2).due(1, "partition", 5, 1).due(2, "partition", 5, 2);
    }

    private void fetch() {
        Run run = run("promise 7");
        run.make("topic", 2, 2, 0).make("topic", 1, 3, 0).make("producer").make("speed", 0);
        for (int broker : new int[] {MIN, -1, 3, MAX}) {
            run.noPlace("fetch", broker);
        }
        run.times(2, "send", 0, 0, 0, 1).times(3, "send", 0, 0, 1, 1).times(1, "send", 0, 1, 0, 1).make("tick", 2);
        run.due(2, "fetch", 1).due(0, "fetch", 1).due(2, "replica", 0, 1, 1).due(2, "replica", 0, 1, 2);
        run.due(0, "replica", 0, 0, 2).due(4, "fetch", 2).due(2, "replica", 1, 1, 2).due(1, "fetch", 0);
        run.due(3, "partition", 1, 3).due(1, "partition", 2, 3);
        run.make("fail", 2).state("fetch", 2).due(0, "fetch", 0).due(0, "fetch", 1);
        Run left = run("promise 7, a replica that left joins");
        left.make("topic", 1, 2, 0).make("producer").make("speed", 0).make("send", 0, 0, 1, 1).make("tick", 4);
        left.due(1, "partition", 0, 2).due(1, "fetch", 1).due(3, "partition", 0, 2).due(4, "replica", 0, 1, 2);
        left.make("tick", 3).make("fail", 1).make("fail", 0).make("restore", 1).due(0, "fetch", 1);
        left.due(1, "partition", 0, 2).due(7, "replica", 0, 1, 2);
    }

    private void speed() {
        Run run = run("promise 8");
        run.due(2, "speed", 0).due(0, "speed", 9).due(9, "speed", 3).due(3, "speed", 3);
        for (int wrong : new int[] {MIN, -1, 10, MAX}) {
            run.bad("speed", wrong);
        }
        run.make("topic", 1, 2, 0).make("producer").make("sendSome", 0, 0, 10, 1).make("tick", 1).due(3, "replica", 0, 1, 1);
        run.due(3, "speed", 9).make("tick", 1).due(10, "replica", 0, 1, 1);
        Run first = run("promise 8, the speed at first");
        first.make("topic", 1, 2, 0).make("producer").make("sendSome", 0, 0, 10, 1).make("tick", 1);
        first.due(2, "replica", 0, 1, 1).make("tick", 2).due(6, "partition", 0, 3).make("tick", 1).due(8, "replica", 0, 1, 1).due(10, "partition", 0, 3);
    }

    private void tick() {
        Run run = run("promise 9");
        for (int wrong : new int[] {MIN, -1, 0, 31, MAX}) {
            run.bad("tick", wrong);
        }
        run.due(1, "tick", 1).due(31, "tick", 30).due(33, "tick", 2).due(33, "count", 5);
        Run sent = run("promise 9, quotas");
        sent.make("topic", 1, 1, 0).make("producer").due(10, "sendSome", 0, 0, 12, 1).due(0, "sendSome", 0, 0, 1, 1);
        sent.make("tick", 1).due(10, "sendSome", 0, 0, 11, 1);
        Run beats = run("promise 9, members that are silent");
        beats.make("topic", 2, 1, 0).make("group", 1).make("join", 0).make("tick", 4).make("join", 0).make("tick", 6);
        beats.due(3, "ofGroup", 0, 1).make("tick", 1).due(2, "ofGroup", 0, 1).due(3, "ofGroup", 0, 0);
        beats.noPlace("beat", 0, 0).due(0, "ofGroup", 0, 5).due(2, "beat", 0, 1).make("tick", 10).due(2, "ofGroup", 0, 1);
        beats.make("read", 0, 1).make("tick", 1).due(0, "ofGroup", 0, 1).due(NONE, "share", 0, 0, 0).due(4, "ofGroup", 0, 0);
    }

    private void tickDelayed() {
        Run run = run("promise 9, delayed messages");
        run.make("topic", 1, 2, 0).make("producer").make("producer");
        run.make("sendLater", 0, 0, 1, 1, 3).make("sendLater", 0, 0, 1, 2, 2).make("sendLater", 0, 0, 1, 3, 3);
        run.make("sendLater", 0, 0, 1, 4, 2).make("tick", 1).due(4, "count", 9).make("tick", 2).due(0, "count", 9);
        run.due(0, "message", 1, 4).due(1, "message", 3, 4).due(2, "message", 0, 4).due(3, "message", 2, 4);
        run.due(2, "message", 1, 7).due(3, "message", 2, 7).due(3, "partition", 0, 2).due(4, "partition", 0, 3);

        Run kept = run("promise 9, delayed messages that must stay");
        kept.make("topic", 1, 2, 0).make("producer").make("producer").make("speed", 0).make("send", 0, 0, 1, 1);
        kept.make("sendLater", 0, 0, 1, 2, 1).make("sendLater", 1, 0, 1, 3, 1).due(1, "fail", 0).make("tick", 1);
        kept.due(0, "message", 1, 0).due(1, "message", 2, 0).due(0, "message", 2, 4).due(1, "resend", 0, 0);
        kept.make("tick", 2).due(2, "message", 1, 4).due(2, "message", 1, 7).make("sendLater", 0, 0, 1, 4, 1);
        kept.make("fail", 1).make("tick", 1).due(1, "count", 9).make("restore", 1).make("tick", 1).due(0, "count", 9);
        kept.due(5, "message", 3, 7);

        Run full = run("promise 9, a full log");
        full.make("topic", 1, 1, 0).make("producer").make("quota", 0, 20);
        for (int i = 0; i < 3; i++) {
            full.times(i < 2 ? 20 : 19, "send", 0, 0, 1, 1).make("tick", 1);
        }
        full.make("sendLater", 0, 0, 1, 2, 1).make("sendLater", 0, 0, 1, 3, 1).make("tick", 1);
        full.due(59, "message", 59, 4).due(0, "message", 60, 0).due(60, "partition", 0, 6).due(1, "count", 9);
    }

    private void tickReplicas() {
        Run run = run("promise 9, in-sync sets");
        run.make("topic", 1, 2, 0).make("producer").make("speed", 0).make("tick", 5).due(5, "replica", 0, 1, 2);
        run.due(0, "replica", 0, 0, 2).make("send", 0, 0, 1, 1).make("tick", 3).due(3, "partition", 0, 2);
        run.due(0, "partition", 0, 3).make("tick", 1).due(1, "partition", 0, 2).due(1, "partition", 0, 3);
        run.make("speed", 1).make("tick", 1).due(3, "partition", 0, 2).due(10, "replica", 0, 1, 2);
        run.make("fail", 1).times(2, "send", 0, 0, 1, 1).make("tick", 4).due(1, "replica", 0, 1, 1);
        run.due(10, "replica", 0, 1, 2).due(3, "partition", 0, 3).make("restore", 1).due(1, "partition", 0, 2);
        run.make("tick", 1).due(2, "replica", 0, 1, 1).due(1, "partition", 0, 2).make("tick", 1).due(3, "partition", 0, 2);
        run.make("fail", 0).make("fail", 1).make("restore", 0).make("tick", 3).due(NONE, "partition", 0, 1);
        run.due(2, "partition", 0, 2).due(16, "replica", 0, 1, 2);
    }

    private void tickOrder() {
        Run run = run("promise 9, the order in a tick");
        run.make("topic", 1, 2, 0).make("producer").make("retain", 0, 0, 60).make("send", 0, 0, 1, 1);
        run.make("sendLater", 0, 0, 1, 2, 1).make("tick", 1).due(2, "partition", 0, 3).due(1, "partition", 0, 5);
        run.due(3, "message", 0, 0).due(1, "message", 1, 0).make("tick", 1).due(2, "partition", 0, 5);
        Run quota = run("promise 9, quotas are at the end of a tick");
        quota.make("topic", 1, 1, 0).make("producer").make("quota", 0, 1).make("sendLater", 0, 0, 1, 1, 1);
        quota.make("tick", 1).due(1, "send", 0, 0, 1, 1).state("send", 0, 0, 1, 1);
    }
}
