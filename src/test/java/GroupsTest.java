import java.util.Random;

/** Promises 20 to 29: groups, members, reading, retries, offsets. */
public final class GroupsTest {
    private static final int MIN = Integer.MIN_VALUE;
    private static final int MAX = Integer.MAX_VALUE;
    private static final int NONE = -1;
    private final Check check = new Check();

    public static void main(String[] args) {
        GroupsTest test = new GroupsTest();
        test.group();
        test.noSuchMember();
        test.join();
        test.targets();
        test.fewestMoves();
        test.leave();
        test.leaveGivesBack();
        test.beat();
        test.credits();
        test.readOrder();
        test.readRows();
        test.readIntoARow();
        test.readPassesOver();
        test.readAnew();
        test.readStops();
        test.readRemoved();
        test.done();
        test.retry();
        test.retryBehind();
        test.commitOffsets();
        test.seek();
        test.seekOfDeadLetters();
        test.check.end();
    }

    private Run run(String about) {
        return new Run(check, about);
    }

    /** One partition, a producer, a group with a member that owns it. */
    private Run reader(String about, int partitions) {
        Run run = run(about);
        run.make("topic", partitions, 1, 0).make("producer").make("quota", 0, 20).make("group", 1).make("join", 0);
        return run.due(partitions, "beat", 0, 0);
    }

    private Run send(Run run, int... keys) {
        for (int key : keys) {
            run.make("send", 0, 0, key, 1);
        }
        return run;
    }

    private void reads(Run run, int member, int... messages) {
        for (int message : messages) {
            run.due(message, "read", 0, member);
        }
    }

    private void waiting(Run run, int... messages) {
        run.due(messages.length, "ofGroup", 0, 3);
        for (int place = 0; place < messages.length; place++) {
            run.due(messages[place], "waits", 0, place, 0);
        }
    }

    private void group() {
        Run run = run("promise 20");
        run.bad("group", 1).make("topic", 2, 1, 0).make("topic", 1, 1, 0);
        for (int wrong : new int[] {MIN, -1, 0, 4, 5, 8, MAX}) {
            run.bad("group", wrong);
        }
        run.due(0, "group", 2).make("topic", 1, 1, 1).due(1, "group", 7).due(2, "group", 5).state("group", 1);
        run.bad("group", 8).bad("group", 0).due(3, "count", 3);
        run.noPlace("share", 0, 0, 0).due(NONE, "share", 0, 2, 0).noPlace("share", 0, 3, 0).due(0, "share", 1, 3, 2);
        run.noPlace("share", 2, 2, 0).due(NONE, "share", 2, 3, 1).due(NONE, "share", 2, 3, 3);
        run.due(0, "ofGroup", 0, 0).due(0, "ofGroup", 0, 1).due(0, "ofGroup", 0, 2).due(0, "ofGroup", 0, 5);
    }

    private void noSuchMember() {
        Run run = run("promises 21 to 28, no such group or member");
        run.make("topic", 1, 1, 0).make("group", 1).make("join", 0).make("join", 0).make("leave", 0, 0);
        for (int group : new int[] {MIN, -1, 1, 3, MAX}) {
            run.noPlace("join", group).noPlace("leave", group, 1).noPlace("beat", group, 1).noPlace("read", group, 1);
            run.noPlace("credits", group, 1, 0).noPlace("done", group, 1, 0).noPlace("retry", group, 1, 0);
            run.noPlace("commitOffsets", group, 1).noPlace("seek", group, 0, -1);
        }
        for (int member : new int[] {MIN, -1, 0, 2, 11, 12, MAX}) {
            run.noPlace("leave", 0, member).noPlace("beat", 0, member).noPlace("read", 0, member);
            run.noPlace("credits", 0, member, 0).noPlace("done", 0, member, 0).noPlace("retry", 0, member, 0);
            run.noPlace("commitOffsets", 0, member);
        }
    }

    private void join() {
        Run run = run("promise 21");
        run.make("topic", 3, 1, 0).make("group", 1).make("tick", 3);
        for (int member = 0; member < 4; member++) {
            run.due(member, "join", 0).due(3, "member", 0, member, 4).due(3, "member", 0, member, 2);
            run.due(0, "member", 0, member, 0).due(0, "member", 0, member, 3);
        }
        run.state("join", 0).due(4, "ofGroup", 0, 0).due(15, "ofGroup", 0, 1).due(0, "ofGroup", 0, 2);
        for (int member = 4; member < 12; member++) {
            run.make("leave", 0, member - 4).due(member, "join", 0);
        }
        run.make("leave", 0, 11).state("join", 0).due(21, "ofGroup", 0, 0).due(7 << 8, "ofGroup", 0, 1);
    }

    /** Each time a member joins or is gone: the targets of the partitions, and how many moved. */
    private void targets() {
        Run run = run("promise 21, targets");
        run.make("topic", 3, 1, 0).make("topic", 2, 1, 0).make("group", 3);
        run.make("join", 0);
        targetsAre(run, 0, 0, 0, 0, 0, 0);
        run.make("join", 0);
        targetsAre(run, 2, 0, 0, 0, 1, 1);
        run.make("join", 0);
        targetsAre(run, 1, 0, 0, 2, 1, 1);
        run.make("join", 0);
        targetsAre(run, 1, 0, 0, 2, 1, 3);
        run.make("leave", 0, 0);
        targetsAre(run, 0, 1, 2, 2, 1, 3);
        run.make("leave", 0, 3);
        targetsAre(run, 0, 1, 2, 2, 1, 1);
        run.make("leave", 0, 2).due(0, "ofGroup", 0, 5).make("join", 0);
        targetsAre(run, 2, 1, 1, 1, 4, 4);
        run.make("leave", 0, 1).make("leave", 0, 4);
        targetsAre(run, 0, NONE, NONE, NONE, NONE, NONE);
        run.due(0, "ofGroup", 0, 1).due(0, "ofGroup", 0, 2);
        Run few = run("promise 21, more members than partitions");
        few.make("topic", 1, 1, 0).make("group", 1).make("join", 0).make("join", 0).due(0, "ofGroup", 0, 5);
        few.due(0, "share", 0, 0, 1).make("leave", 0, 0).due(1, "share", 0, 0, 1).due(0, "ofGroup", 0, 5);
    }

    private void targetsAre(Run run, int moved, int... targets) {
        run.due(moved, "ofGroup", 0, 5);
        for (int p = 0; p < targets.length; p++) {
            run.due(targets[p], "share", 0, p, 1);
        }
    }

    /** No way to share the partitions evenly takes fewer of them from members that are in the group still. */
    private void fewestMoves() {
        check.about("promise 21, the fewest moves");
        Random random = new Random(5);
        for (int drawn = 0; drawn < 200; drawn++) {
            MessageBroker broker = new MessageBroker();
            int partitions = 0;
            for (int topic = 0; topic < 3; topic++) {
                int own = 1 + random.nextInt(3);
                broker.topic(own, 1, false);
                partitions += own;
            }
            broker.group(7);
            for (int change = 0; change < 14; change++) {
                changeMembers(broker, partitions, random);
            }
        }
    }

    private void changeMembers(MessageBroker broker, int partitions, Random random) {
        int members = broker.ofGroup(0, 1);
        int[] before = new int[12];
        for (int p = 0; p < partitions; p++) {
            int target = broker.share(0, p, 1);
            if (target != NONE) {
                before[target]++;
            }
        }
        boolean isJoin = Integer.bitCount(members) < 2 || Integer.bitCount(members) < 4 && random.nextBoolean();
        if (isJoin && 32 - Integer.numberOfLeadingZeros(members) < 12) {
            broker.join(0);
        } else if (members != 0) {
            int gone = 31 - Integer.numberOfLeadingZeros(members);
            while (random.nextBoolean() || (members >> gone & 1) == 0) {
                gone = random.nextInt(12);
            }
            broker.leave(0, gone);
        }
        check.same("moves", leastMoves(broker.ofGroup(0, 1), partitions, before), broker.ofGroup(0, 5));
    }

    private static int leastMoves(int members, int partitions, int[] before) {
        int count = Integer.bitCount(members);
        if (count == 0) {
            return 0;
        }
        int least = MAX;
        for (int more = members; more >= 0; more = more == 0 ? -1 : more - 1 & members) {
            if (Integer.bitCount(more) == partitions % count) {
                int moves = 0;
                for (int m = 0; m < 12; m++) {
                    int share = partitions / count + (more >> m & 1);
                    moves += (members >> m & 1) == 1 ? Math.max(0, before[m] - share) : 0;
                }
                least = Math.min(least, moves);
            }
        }
        return least;
    }

    private void leave() {
        Run run = reader("promise 22", 3);
        run.make("join", 0).due(3, "leave", 0, 0).noPlace("leave", 0, 0).due(2, "ofGroup", 0, 1);
        run.due(3, "ofGroup", 0, 0).due(NONE, "share", 0, 0, 0).due(NONE, "share", 0, 0, 3).due(1, "share", 0, 2, 1);
        run.due(0, "leave", 0, 1).due(0, "ofGroup", 0, 1).due(2, "join", 0).due(3, "beat", 0, 2).due(3, "leave", 0, 2);
    }

    private void leaveGivesBack() {
        Run run = reader("promise 22, the hand", 1);
        send(run, 1, 2, 3);
        reads(run, 0, 0, 1);
        run.due(2, "retry", 0, 0, 0).make("tick", 2);
        reads(run, 0, 0, 2);
        run.make("join", 0).make("tick", 1).due(1, "leave", 0, 0);
        waiting(run, 0);
        run.due(3, "waits", 0, 0, 1).due(1, "waits", 0, 0, 2).due(1, "beat", 0, 1).due(0, "share", 0, 0, 3);
        reads(run, 1, 0, 1, 2, NONE);
        run.due(2, "seen", 0, 1).due(3, "seen", 0, 0).due(1, "hand", 0, 1, 0, 1).due(0, "hand", 0, 1, 1, 1);
        run.due(1, "audit", 6);
    }

    private void beat() {
        Run run = reader("promise 23", 3);
        run.make("tick", 2).make("join", 0).due(0, "member", 0, 0, 4).due(0, "beat", 0, 1).due(2, "beat", 0, 0);
        run.due(2, "member", 0, 0, 4).due(0, "share", 0, 1, 0).due(NONE, "share", 0, 2, 0).due(0, "ofGroup", 0, 2);
        run.due(1, "beat", 0, 1).due(1, "share", 0, 2, 0).due(1, "ofGroup", 0, 2).due(1, "audit", 5);

        Run given = reader("promise 23, what is given up", 2);
        send(given, 0, 1, 0, 1);
        given.make("credits", 0, 0, 9);
        reads(given, 0, 0, 1, 2, 3);
        given.due(2, "retry", 0, 0, 1);
        waiting(given, 3, 1);
        given.make("tick", 2);
        reads(given, 0, 1, 3);
        given.make("join", 0).make("tick", 1).due(1, "beat", 0, 0).due(2, "member", 0, 0, 3);
        waiting(given, 1, 3);
        given.due(3, "waits", 0, 0, 1).due(1, "waits", 0, 0, 2).due(3, "waits", 0, 1, 1).due(0, "waits", 0, 1, 2);
        reads(given, 0, NONE);
        given.due(1, "beat", 0, 1);
        reads(given, 1, 1, 3, NONE);
        given.due(1, "audit", 6);

        Run first = reader("promise 23, from the first offset on", 1);
        send(first, 1, 1, 1);
        first.make("leave", 0, 0).make("retain", 0, 999, 1).make("tick", 1).make("join", 0).make("beat", 0, 1);
        first.due(2, "share", 0, 0, 3).due(0, "share", 0, 0, 2).due(2, "read", 0, 1);
        first.due(1, "commitOffsets", 0, 1).due(2, "share", 0, 0, 2);
    }

    private void credits() {
        Run run = reader("promise 24", 1);
        send(run, 1, 2, 3, 4, 5, 6, 7, 8, 9, 10);
        for (int wrong : new int[] {MIN, -1, 0, 10, MAX}) {
            run.bad("credits", 0, 0, wrong);
        }
        reads(run, 0, 0, 1, 2, NONE);
        run.state("credits", 0, 0, 2).bad("credits", 0, 0, 0).due(3, "credits", 0, 0, 3).due(3, "credits", 0, 0, 9);
        reads(run, 0, 3, 4, 5, 6, 7, 8, NONE);
        run.state("credits", 0, 0, 8).due(9, "credits", 0, 0, 9).due(8, "done", 0, 0, 4).due(9, "credits", 0, 0, 8);
        reads(run, 0, NONE);
        run.due(7, "done", 0, 0, 5).due(9, "read", 0, 0).due(8, "member", 0, 0, 2);
    }

    private void readOrder() {
        Run run = reader("promise 25, partitions by turns", 3);
        send(run, 0, 0, 0, 1, 1, 2);
        run.make("credits", 0, 0, 9);
        reads(run, 0, 0, 3, 5, 1, 4, 2, NONE);
        send(run, 1, 2, 0);
        reads(run, 0, 6, 7, 8, NONE);
        Run row = reader("promise 25, a waiting row does not turn them", 2);
        send(row, 0, 1, 1, 0, 1);
        reads(row, 0, 0, 1);
        row.due(2, "retry", 0, 0, 1).make("tick", 2).due(1, "read", 0, 0).due(3, "read", 0, 0).due(2, "done", 0, 0, 1);
        row.due(2, "read", 0, 0).due(2, "done", 0, 0, 0).due(4, "read", 0, 0);
        Run leaderless = reader("promise 25, without a leader", 2);
        send(leaderless, 0, 0, 1, 1);
        reads(leaderless, 0, 0);
        leaderless.due(2, "retry", 0, 0, 0).make("fail", 0).due(1, "message", 1, 8);
        reads(leaderless, 0, 2, 3, NONE);
        leaderless.make("tick", 2);
        reads(leaderless, 0, 0);
        leaderless.make("done", 0, 0, 0).due(NONE, "read", 0, 0).make("restore", 0).due(1, "read", 0, 0);
    }

    private void readRows() {
        Run run = reader("promise 25, waiting rows", 1);
        send(run, 1, 2, 3, 1, 2);
        reads(run, 0, 0, 1, 2);
        run.due(2, "retry", 0, 0, 1).make("tick", 1).due(3, "retry", 0, 0, 2).due(3, "retry", 0, 0, 0);
        waiting(run, 1, 0, 2);
        reads(run, 0, NONE);
        waiting(run, 3, 4, 1, 0, 2);
        run.due(1, "waits", 0, 0, 1).due(5, "share", 0, 0, 3).make("tick", 1);
        reads(run, 0, 1, 4, NONE);
        run.make("done", 0, 0, 1).make("done", 0, 0, 4).make("tick", 1);
        reads(run, 0, 0, 3, 2, NONE);
        run.due(1, "hand", 0, 0, 1, 2).due(0, "hand", 0, 0, 1, 1).due(2, "seen", 0, 2).due(1, "audit", 3);
    }

    private void readIntoARow() {
        Run run = reader("promise 25, into the row of its key", 1);
        send(run, 1, 1, 1, 2);
        reads(run, 0, 0);
        run.due(2, "retry", 0, 0, 0).make("tick", 1);
        reads(run, 0, 3, NONE);
        waiting(run, 1, 2, 0);
        run.due(1, "waits", 0, 0, 1).due(0, "waits", 0, 0, 2).make("tick", 1);
        reads(run, 0, 0, 1, NONE);
        run.make("done", 0, 0, 3).due(2, "read", 0, 0).due(1, "audit", 3);
    }

    private void readPassesOver() {
        Run run = reader("promise 25, what is passed over", 1);
        send(run, 1, 2, 3, 1, 4);
        reads(run, 0, 0, 1, 2);
        run.make("retry", 0, 0, 0).make("tick", 2);
        reads(run, 0, 0);
        run.make("retry", 0, 0, 0).make("tick", 4);
        reads(run, 0, 0);
        run.due(NONE, "retry", 0, 0, 0).make("retry", 0, 0, 1).make("join", 0).make("leave", 0, 0).make("beat", 0, 1);
        run.due(0, "share", 0, 0, 3).make("tick", 2).make("credits", 0, 1, 9);
        reads(run, 1, 1, 2, 3, 4, NONE);
        run.due(1, "seen", 0, 3).due(3, "seen", 0, 0).due(1, "ofGroup", 0, 4).due(1, "audit", 6);
    }

    private void readAnew() {
        Run run = reader("promise 25, anew from the log", 1);
        send(run, 1, 2);
        reads(run, 0, 0);
        run.make("retry", 0, 0, 0).make("tick", 2);
        reads(run, 0, 0);
        run.due(1, "hand", 0, 0, 0, 1).make("done", 0, 0, 0).make("join", 0).make("leave", 0, 0).make("beat", 0, 1);
        reads(run, 1, 0, 1);
        run.due(0, "hand", 0, 1, 0, 1).due(0, "hand", 0, 1, 0, 2).due(4, "retry", 0, 1, 0);
    }

    private void readStops() {
        Run run = run("promise 25, the stable offset");
        run.make("topic", 1, 2, 0).make("producer").make("producer").make("group", 1).make("join", 0).make("beat", 0, 0);
        run.make("send", 0, 0, 1, 1).due(NONE, "read", 0, 0).make("begin", 1).make("send", 1, 0, 1, 2);
        run.make("send", 0, 0, 2, 3).make("fetch", 1).due(0, "read", 0, 0).due(NONE, "read", 0, 0);
        run.due(1, "share", 0, 0, 3).make("abort", 1).due(2, "read", 0, 0).due(3, "share", 0, 0, 3);
        run.due(0, "seen", 0, 1).make("begin", 1).make("send", 1, 0, 1, 4).make("fetch", 1).due(NONE, "read", 0, 0);
        run.make("commit", 1).due(3, "read", 0, 0).due(1, "audit", 6);
    }

    private void readRemoved() {
        Run run = reader("promise 25, REMOVED messages", 1);
        send(run, 1, 1, 2, 3);
        reads(run, 0, 0, 1);
        run.make("retry", 0, 0, 0).make("retain", 0, 0, 60).make("tick", 2).due(3, "message", 1, 0);
        waiting(run, 1, 0);
        reads(run, 0, 0, 1, NONE);
        run.due(3, "message", 3, 0).due(0, "share", 0, 0, 4).due(1, "audit", 6);
    }

    private void done() {
        Run run = reader("promise 26", 1);
        send(run, 1, 2, 3);
        reads(run, 0, 0, 1, 2);
        for (int wrong : new int[] {MIN, -1, 3, 150, MAX}) {
            run.state("done", 0, 0, wrong).state("retry", 0, 0, wrong);
        }
        run.due(2, "done", 0, 0, 1).state("done", 0, 0, 1).state("retry", 0, 0, 1).due(0, "hand", 0, 0, 0, 0);
        run.due(2, "hand", 0, 0, 1, 0).due(1, "done", 0, 0, 0).due(0, "done", 0, 0, 2).due(0, "ofGroup", 0, 3);
        run.make("join", 0).state("done", 0, 1, 0);
    }

    private void retry() {
        Run run = reader("promise 27", 1);
        send(run, 1);
        run.make("tick", 5).due(0, "read", 0, 0).due(7, "retry", 0, 0, 0).state("retry", 0, 0, 0);
        run.due(1, "share", 0, 0, 5).due(1, "waits", 0, 0, 2).make("tick", 1).due(NONE, "read", 0, 0).make("tick", 1);
        run.make("beat", 0, 0).due(0, "read", 0, 0).due(11, "retry", 0, 0, 0).due(2, "waits", 0, 0, 2).make("tick", 3);
        run.due(NONE, "read", 0, 0).make("tick", 1).due(0, "read", 0, 0).due(2, "hand", 0, 0, 0, 1);
        run.due(NONE, "retry", 0, 0, 0).due(0, "dead", 0, 0).due(0, "ofGroup", 0, 3).due(1, "ofGroup", 0, 4);
        run.due(1, "share", 0, 0, 6).state("retry", 0, 0, 0).due(3, "seen", 0, 0);
    }

    private void retryBehind() {
        Run run = reader("promise 27, the same key behind it", 2);
        send(run, 0, 2, 1, 0, 3, 0);
        run.make("credits", 0, 0, 9);
        reads(run, 0, 0, 2, 1, 4, 3, 5);
        run.due(2, "retry", 0, 0, 3);
        waiting(run, 5, 3);
        run.due(4, "member", 0, 0, 3).due(0, "waits", 0, 0, 2).due(2, "retry", 0, 0, 0);
        waiting(run, 5, 0, 3);
        run.due(3, "member", 0, 0, 3).due(NONE, "read", 0, 0).make("tick", 2);
        reads(run, 0, 0, 3, 5);
        run.due(6, "retry", 0, 0, 0);
        waiting(run, 3, 5, 0);
        run.due(1, "waits", 0, 0, 2).due(0, "waits", 0, 1, 2).due(2, "waits", 0, 2, 2).make("tick", 4);
        reads(run, 0, 0, 3, 5);
        run.due(NONE, "retry", 0, 0, 0);
        waiting(run, 3, 5);
        reads(run, 0, 3, 5);
        run.due(1, "audit", 6);
    }

    private void commitOffsets() {
        Run run = reader("promise 28", 2);
        send(run, 0, 0, 1, 0);
        run.make("credits", 0, 0, 9).due(0, "commitOffsets", 0, 0);
        reads(run, 0, 0, 2, 1, 3);
        run.due(0, "share", 0, 1, 2).make("done", 0, 0, 1).due(0, "commitOffsets", 0, 0).make("done", 0, 0, 0);
        run.make("done", 0, 0, 2).due(2, "commitOffsets", 0, 0).due(2, "share", 0, 0, 2).due(1, "share", 0, 1, 2);
        run.due(2, "retry", 0, 0, 3).due(1, "commitOffsets", 0, 0).due(3, "share", 0, 0, 2).make("tick", 2);
        run.due(3, "read", 0, 0).due(0, "commitOffsets", 0, 0).make("join", 0).due(0, "commitOffsets", 0, 1);
        run.due(1, "audit", 4);
    }

    private void seek() {
        Run run = reader("promise 29", 2);
        run.make("topic", 1, 1, 0);
        send(run, 0, 0, 0, 1);
        for (int wrong : new int[] {MIN, -1, 2, 3, MAX}) {
            run.noPlace("seek", 0, wrong, 0).noPlace("seek", 0, wrong, -1);
        }
        for (int wrong : new int[] {MIN, -1, 61, MAX}) {
            run.bad("seek", 0, 0, wrong);
        }
        run.state("seek", 0, 0, 0).make("credits", 0, 0, 9);
        reads(run, 0, 0, 3, 1, 2);
        run.make("retry", 0, 0, 3).make("retry", 0, 0, 0).make("leave", 0, 0);
        waiting(run, 1, 2, 0, 3);
        run.due(0, "seek", 0, 0, 2).due(2, "seek", 0, 0, 60).due(60, "share", 0, 0, 2).due(60, "seek", 0, 0, 0);
        waiting(run, 3);
        run.due(0, "share", 0, 0, 5).due(1, "share", 0, 1, 5).make("join", 0).due(2, "beat", 0, 1).make("credits", 0, 1, 9);
        reads(run, 1, 0, 1, 2, NONE);
        run.due(0, "hand", 0, 1, 0, 1).due(2, "seen", 0, 0).make("tick", 2).due(3, "read", 0, 1).due(1, "audit", 6);
    }

    private void seekOfDeadLetters() {
        Run run = reader("promise 29, dead letters", 2);
        send(run, 0, 1, 0);
        reads(run, 0, 0, 1);
        for (int due : new int[] {2, 6, NONE}) {
            run.due(due, "retry", 0, 0, 0).due(due, "retry", 0, 0, 1);
            if (due != NONE) {
                run.make("tick", due == 2 ? 2 : 4);
                reads(run, 0, 0, 1);
            }
        }
        run.due(0, "dead", 0, 0).due(1, "dead", 0, 1).noPlace("dead", 0, 2).make("leave", 0, 0).due(0, "seek", 0, 0, 1);
        run.due(1, "dead", 0, 0).noPlace("dead", 0, 1).due(1, "ofGroup", 0, 4).due(0, "share", 0, 0, 6);
        run.make("join", 0).make("beat", 0, 1);
        reads(run, 1, 2, NONE);
        run.make("leave", 0, 1).due(1, "seek", 0, 0, 0).make("join", 0).make("beat", 0, 2);
        reads(run, 2, 0, 2, NONE);
        run.due(1, "audit", 6);

        Run order = reader("promise 29, the order is since the latest seek", 1);
        send(order, 1, 1);
        order.make("leave", 0, 0).make("seek", 0, 0, 1).make("join", 0).make("beat", 0, 1);
        reads(order, 1, 1);
        order.due(1, "audit", 6).make("leave", 0, 1).make("seek", 0, 0, 0).make("join", 0).make("beat", 0, 2);
        reads(order, 2, 0);
        order.due(1, "audit", 3).due(1, "audit", 6).due(1, "read", 0, 2).due(1, "audit", 6);

        Run behind = reader("promise 29, an offset behind the end", 1);
        send(behind, 1, 1);
        behind.make("leave", 0, 0).due(0, "seek", 0, 0, 60).make("join", 0).make("beat", 0, 1).due(NONE, "read", 0, 1);
        behind.due(60, "share", 0, 0, 3).due(0, "share", 0, 0, 4).due(0, "commitOffsets", 0, 1).due(1, "audit", 6);
    }
}
