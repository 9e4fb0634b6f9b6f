/** Promises 20 to 29 and the terms 'Groups': a test for each sentence that names a boundary. */
public final class GroupBoundsTest {
    private static final int NONE = -1;
    private static final String[] CALLS_OF_A_MEMBER = {"leave", "beat", "read", "commitOffsets"};
    private final Check check = new Check();

    public static void main(String[] args) throws ReflectiveOperationException {
        GroupBoundsTest tests = new GroupBoundsTest();
        tests.check.runAll(tests);
    }

    private Run run(String about) {
        return new Run(check, about);
    }

    /** As many partitions of one topic, a producer, and a group that reads them. */
    private Run group(String about, int partitions) {
        return run(about).make("topic", partitions, 1, 0).make("producer").make("quota", 0, 20).make("group", 1);
    }

    /** As group(), with a member that owns all partitions and may hold nine messages. */
    private Run reader(String about, int partitions) {
        return group(about, partitions).make("join", 0).due(partitions, "beat", 0, 0).make("credits", 0, 0, 9);
    }

    private Run send(Run run, int... keys) {
        for (int key : keys) {
            run.make("send", 0, 0, key, 1);
        }
        return run;
    }

    private Run reads(Run run, int member, int... messages) {
        for (int message : messages) {
            run.due(message, "read", 0, member);
        }
        return run;
    }

    private Run waiting(Run run, int... messages) {
        run.due(messages.length, "ofGroup", 0, 3);
        for (int place = 0; place < messages.length; place++) {
            run.due(messages[place], "waits", 0, place, 0);
        }
        return run;
    }

    private Run holds(Run run, int member, int... messages) {
        run.due(messages.length, "member", 0, member, 3);
        for (int place = 0; place < messages.length; place++) {
            run.due(messages[place], "hand", 0, member, place, 0);
        }
        return run;
    }

    /** The targets of partitions from 0 on, and how many moved as they were dealt last. */
    private Run targets(Run run, int moved, int... targets) {
        run.due(moved, "ofGroup", 0, 5);
        for (int partition = 0; partition < targets.length; partition++) {
            run.due(targets[partition], "share", 0, partition, 1);
        }
        return run;
    }

    /** Message 0 fails often enough to be a dead letter; it takes 6 ticks from the tick 0 on. */
    private Run deadLetter(Run run) {
        run.due(0, "read", 0, 0).due(2, "retry", 0, 0, 0).make("tick", 2).due(0, "read", 0, 0).due(6, "retry", 0, 0, 0);
        return run.make("tick", 4).due(0, "read", 0, 0).due(NONE, "retry", 0, 0, 0);
    }

    // ======== promise 20

    private void topicsOfAGroup() {
        Run run = run("promise 20: IllegalArgumentException if topics is 0 or below, or has a bit of no topic");
        run.badOutside(1, 0, 0, "group", 0).make("topic", 1, 1, 0).badOutside(1, 1, 0, "group", 0).make("topic", 2, 1, 0);
        run.badOutside(1, 3, 0, "group", 0).bad("group", 5).bad("group", 6).due(0, "group", 1).due(1, "group", 2);
        run.make("topic", 1, 1, 0).badOutside(1, 7, 0, "group", 0).bad("group", 9).bad("group", 1 << 30)
                .due(2, "group", 7);
    }

    private void threeGroups() {
        Run run = group("promise 20: IllegalStateException if there are 3 groups", 1);
        run.due(1, "group", 1).due(2, "group", 1).state("group", 1).due(3, "count", 3);
    }

    private void whichComesFirstInGroup() {
        Run run = group("promise 20: the topics come first", 1);
        run.make("group", 1).make("group", 1).bad("group", 0).bad("group", 2).bad("group", -1).state("group", 1);
    }

    private void partitionsOfAGroup() {
        Run run = run("Terms: a group reads some topics; its partitions are all theirs, and none of other topics");
        run.make("topic", 2, 1, 0).make("topic", 1, 1, 0).make("topic", 2, 1, 0).make("group", 5);
        int[] owners = {NONE, NONE, 0, NONE, NONE};
        for (int partition = 0; partition < 5; partition++) {
            if (partition == 2) {
                run.noPlace("share", 0, partition, 0);
            } else {
                run.due(owners[partition], "share", 0, partition, 0);
            }
        }
        run.noneOutside(0, 4, 1, "share", 0, 0, 0).make("join", 0).due(4, "beat", 0, 0);
    }

    // ======== promise 21

    private void joinOfNoGroup() {
        Run run = group("promise 21: IndexOutOfBoundsException if there is no such group", 1);
        run.make("group", 1).noneOutside(0, 1, 0, "join", 0).due(0, "join", 0).due(0, "join", 1);
    }

    private void fourMembers() {
        Run run = group("promise 21: IllegalStateException if it has 4 members", 2).make("group", 1);
        for (int member = 0; member < 4; member++) {
            run.due(member, "join", 0);
        }
        run.state("join", 0).due(4, "ofGroup", 0, 0).due(15, "ofGroup", 0, 1).due(0, "join", 1).make("leave", 0, 2);
        run.due(4, "join", 0).due(27, "ofGroup", 0, 1).state("join", 0);
    }

    private void twelveMembersInAll() {
        Run run = group("promise 21: IllegalStateException if it had 12 in all, though it has none", 1);
        for (int member = 0; member < 12; member++) {
            run.due(member, "join", 0).due(1 << member, "ofGroup", 0, 1).due(0, "leave", 0, member);
        }
        run.state("join", 0).due(24, "ofGroup", 0, 0).due(0, "ofGroup", 0, 1).due(0, "ofGroup", 0, 2);
    }

    private void theTwelfthMember() {
        Run run = group("promise 21: the last member of all owns, reads and leaves as others do", 1);
        for (int member = 0; member < 11; member++) {
            run.make("join", 0).make("leave", 0, member);
        }
        send(run, 1).due(11, "join", 0).state("join", 0).due(1, "beat", 0, 11).due(0, "read", 0, 11);
        run.due(11, "share", 0, 0, 0).due(1, "member", 0, 11, 3).due(0, "hand", 0, 11, 0, 0).due(1, "leave", 0, 11);
        run.noPlace("beat", 0, 11).state("join", 0);
    }

    private void ownsNothingAtFirst() {
        Run run = group("promise 21: a member joins; it owns nothing at first; three credits; an empty hand", 3);
        run.make("tick", 4).due(0, "join", 0).dueEach(new int[] {0, 3, 3, 0, 4}, "member", 0, 0)
                .due(NONE, "share", 0, 0, 0);
        run.due(NONE, "share", 0, 0, 3).due(0, "ofGroup", 0, 2).due(NONE, "read", 0, 0).noPlace("hand", 0, 0, 0, 0);
    }

    private void sharesWithoutRemainder() {
        Run run = group("Terms: the share of each is the partitions divided by m, without a remainder", 3);
        targets(run, 0, NONE, NONE, NONE).make("join", 0);
        targets(run, 0, 0, 0, 0).make("join", 0).make("join", 0);
        targets(run, 1, 0, 2, 1);
    }

    private void sharesWithARemainder() {
        Run run = group("Terms: one more for as many as the remainder tells: first those that are the target of most", 3);
        run.make("join", 0).make("join", 0);
        targets(run, 1, 0, 0, 1).make("leave", 0, 0);
        targets(run, 0, 1, 1, 1).make("join", 0);
        targets(run, 1, 1, 1, 2);
    }

    private void moreMembersThanPartitions() {
        Run run = group("Terms: shares of 0: more members than partitions", 1);
        run.make("join", 0).make("join", 0).make("join", 0).make("join", 0);
        targets(run, 0, 0).due(0, "member", 0, 3, 1).make("leave", 0, 0);
        targets(run, 0, 1).due(0, "beat", 0, 2).due(1, "beat", 0, 1).due(0, "leave", 0, 3);
        targets(run, 0, 1).due(1, "leave", 0, 1);
        targets(run, 0, 2);
    }

    private void ofSeveralTheLeastNumber() {
        Run run = run("Terms: of several that are the target of as many, the least number has one more");
        run.make("topic", 3, 1, 0).make("topic", 1, 1, 0).make("group", 3).make("join", 0).make("join", 0);
        targets(run, 2, 0, 0, 1, 1).make("join", 0);
        targets(run, 1, 0, 0, 1, 2).make("leave", 0, 0).make("join", 0);
        targets(run, 1, 1, 2, 1, 3);
    }

    private void theLeastNumberedAreKept() {
        Run run = run("Terms: it keeps as many, those with the least numbers; the others are dealt, rising");
        run.make("topic", 3, 1, 0).make("topic", 3, 1, 0).make("topic", 3, 1, 0).make("group", 7).make("join", 0);
        run.make("join", 0);
        targets(run, 4, 0, 0, 0, 0, 0, 1, 1, 1, 1).make("join", 0);
        targets(run, 3, 0, 0, 0, 2, 2, 1, 1, 1, 2).make("join", 0);
        targets(run, 2, 0, 0, 0, 2, 2, 1, 1, 3, 3).make("leave", 0, 0);
        targets(run, 0, 1, 2, 3, 2, 2, 1, 1, 3, 3);
    }

    private void targetsWithoutMembers() {
        Run run = reader("Terms: a target, a member or none (none without members)", 2);
        targets(run, 0, 0, 0).due(2, "leave", 0, 0);
        targets(run, 0, NONE, NONE).due(NONE, "share", 0, 0, 0).due(0, "ofGroup", 0, 2).due(1, "join", 0);
        targets(run, 0, 1, 1);
    }

    // ======== promise 22

    private void leaveOfNoGroupOrMember() {
        Run run = group("promise 22: IndexOutOfBoundsException if there is no such group, or member in it", 1);
        run.noPlace("leave", 0, 0).make("join", 0).make("join", 0).noneOutside(0, 0, 0, "leave", 0, 0);
        run.noneOutside(0, 1, 1, "leave", 0, 0).due(0, "leave", 0, 1).noneOutside(0, 0, 1, "leave", 0, 0)
                .due(0, "leave", 0, 0);
    }

    private void aMemberThatLeftIsGone() {
        Run run = reader("Terms: one that left or was expelled is gone for good", 1).make("join", 0).make("leave", 0, 0);
        run.make("tick", 10).make("join", 0).make("tick", 1).due(4, "ofGroup", 0, 1);
        for (int gone = 0; gone <= 1; gone++) {
            for (String name : CALLS_OF_A_MEMBER) {
                run.noPlace(name, 0, gone);
            }
            run.noPlace("credits", 0, gone, 3).noPlace("done", 0, gone, 0).noPlace("retry", 0, gone, 0);
            run.noPlace("member", 0, gone, 0).noPlace("hand", 0, gone, 0, 0);
        }
        run.due(3, "join", 0);
    }

    private void howManyPartitionsAreGivenUp() {
        Run run = group(
                "promise 22: returns how many partitions it gives up: none that it does not own, and all that it does", 3);
        run.make("join", 0).due(0, "leave", 0, 0).make("join", 0).make("beat", 0, 1).make("join", 0)
                .due(3, "leave", 0, 1);
        run.due(0, "leave", 0, 2).due(6, "ofGroup", 0, 0);
    }

    private void theGeneration() {
        Run run = group(
                "Terms: the generation is how often a member joined, left or was expelled: not how often one beat", 1);
        run.due(0, "ofGroup", 0, 0).make("join", 0).due(1, "ofGroup", 0, 0).make("beat", 0, 0).due(1, "ofGroup", 0, 0);
        run.make("join", 0).due(2, "ofGroup", 0, 0).make("leave", 0, 0).due(3, "ofGroup", 0, 0).make("tick", 11);
        run.due(4, "ofGroup", 0, 0);
    }

    // ======== promise 23

    private void beatOfNoGroupOrMember() {
        Run run = group("promise 23: IndexOutOfBoundsException if there is no such group, or member in it", 1);
        run.noPlace("beat", 0, 0).make("join", 0).noneOutside(0, 0, 0, "beat", 0, 0).noneOutside(0, 0, 1, "beat", 0, 0);
        run.due(1, "beat", 0, 0);
    }

    private void howManyPartitionsAreOwned() {
        Run run = group("promise 23: returns how many partitions it owns then: none, if others own its targets still", 3);
        run.make("join", 0).due(3, "beat", 0, 0).make("join", 0).make("join", 0).due(0, "beat", 0, 1)
                .due(0, "beat", 0, 2);
        run.due(1, "beat", 0, 0).due(1, "beat", 0, 1).due(1, "beat", 0, 2).due(1, "ofGroup", 0, 2);
    }

    private void whereAMemberReadsOn() {
        Run run = reader(
                "Terms: it reads on from its committed offset (0 at first), or from its first offset, if that is more", 1);
        send(run, 1, 2, 3, 4);
        run.due(0, "share", 0, 0, 3).make("retain", 0, 999, 2).make("leave", 0, 0).due(0, "seek", 0, 0, 1)
                .make("tick", 1);
        run.due(2, "partition", 0, 5).make("join", 0).make("beat", 0, 1).due(2, "share", 0, 0, 3).make("leave", 0, 1);
        run.due(1, "seek", 0, 0, 2).make("join", 0).make("beat", 0, 2).due(2, "share", 0, 0, 3).make("leave", 0, 2);
        run.due(2, "seek", 0, 0, 3).make("join", 0).make("beat", 0, 3).due(3, "share", 0, 0, 3).due(3, "read", 0, 3);
    }

    private void anOwnerReadsOnWhatRetentionRemoves() {
        Run run = reader("Terms: the offset from which an owner reads on stays, if retention passes it", 1);
        send(run, 1, 2, 3).make("retain", 0, 999, 1).make("tick", 1).due(0, "share", 0, 0, 3).due(2, "read", 0, 0);
        run.due(3, "share", 0, 0, 3).due(1, "commitOffsets", 0, 0).due(2, "share", 0, 0, 2);
    }

    private void whatIsGivenUp() {
        Run run = reader(
                "Terms: its messages leave the hand; those from a waiting row come back into it, due now, with their attempts", 2);
        send(run, 0, 1, 3, 1);
        reads(run, 0, 0, 1, 2, 3).due(2, "retry", 0, 0, 1).make("tick", 2);
        reads(run, 0, 1, 3).make("join", 0).make("tick", 3).due(1, "beat", 0, 0);
        holds(run, 0, 0);
        waiting(run, 1, 3).dueEach(new int[] {1, 5, 1}, "waits", 0, 0).dueEach(new int[] {3, 5, 0}, "waits", 0, 1);
        run.due(1, "beat", 0, 1);
        reads(run, 1, 1, 3, 2, NONE).due(2, "seen", 0, 2).due(0, "hand", 0, 1, 2, 2).due(1, "audit", 6);
    }

    // ======== promise 24

    private void creditsOfNoGroupOrMember() {
        Run run = group("promise 24: IndexOutOfBoundsException if there is no such group, or member in it", 1);
        run.make("join", 0).noneOutside(0, 0, 0, "credits", 0, 0, 5).noneOutside(0, 0, 1, "credits", 0, 0, 5);
        run.due(3, "credits", 0, 0, 5);
    }

    private void rangeOfCredits() {
        Run run = group("promise 24: messages: 1 to 9; at first 3", 1).make("join", 0);
        run.badOutside(1, 9, 2, "credits", 0, 0, 5).due(3, "credits", 0, 0, 1).due(1, "credits", 0, 0, 9);
        run.badOutside(1, 9, 2, "credits", 0, 0, 5).due(9, "credits", 0, 0, 5).due(5, "member", 0, 0, 2);
    }

    private void creditsBelowTheHand() {
        Run run = reader("promise 24: IllegalStateException if its hand has more", 1);
        send(run, 1, 2, 3);
        reads(run, 0, 0, 1, 2).state("credits", 0, 0, 2).state("credits", 0, 0, 1).due(9, "credits", 0, 0, 3);
        run.make("done", 0, 0, 1).state("credits", 0, 0, 1).due(3, "credits", 0, 0, 2);
    }

    private void whichComesFirstInCredits() {
        Run run = reader("promise 24: no such group or member comes first, then the range, then the hand", 1);
        send(run, 1, 2);
        reads(run, 0, 0, 1).noPlace("credits", 1, 0, 0).noPlace("credits", 0, 1, 10).bad("credits", 0, 0, 0);
        run.state("credits", 0, 0, 1);
    }

    // ======== promise 25

    private void readOfNoGroupOrMember() {
        Run run = group("promise 25: IndexOutOfBoundsException if there is no such group, or member in it", 1);
        run.noPlace("read", 0, 0).make("join", 0).noneOutside(0, 0, 0, "read", 0, 0).noneOutside(0, 0, 1, "read", 0, 0);
        run.due(NONE, "read", 0, 0);
    }

    private void nothingToRead() {
        Run run = reader("promise 25: NONE without one: of empty logs, and behind the last message", 3);
        reads(send(run, 2), 0, 0, NONE, NONE).due(1, "seen", 0, 0).due(1, "share", 0, 2, 3).due(0, "share", 0, 0, 3);
        Run none = group("promise 25: NONE without one: a member that owns nothing", 1).make("join", 0);
        send(none, 1).due(NONE, "read", 0, 0).due(0, "seen", 0, 0);
    }

    private void aFullHand() {
        int[] credits = {1, 3, 9};
        for (int most : credits) {
            Run run = reader("Terms: if the hand has as many messages as the credits, nothing is delivered: " + most, 1);
            run.make("credits", 0, 0, most);
            for (int message = 0; message <= most; message++) {
                run.due(message, "send", 0, 0, message, 1);
            }
            for (int message = 0; message < most; message++) {
                run.due(message, "read", 0, 0);
            }
            run.due(NONE, "read", 0, 0).due(most, "share", 0, 0, 3).due(0, "seen", 0, most).make("done", 0, 0, 0);
            run.due(most, "read", 0, 0).due(NONE, "read", 0, 0);
        }
    }

    private void aFullHandAndADueRow() {
        Run run = reader(
                "Terms: if the hand is full, nothing is delivered from a waiting row, either", 1).make("credits", 0, 0, 1);
        send(run, 1, 2);
        reads(run, 0, 0).due(2, "retry", 0, 0, 0);
        reads(run, 0, 1).make("tick", 2).due(NONE, "read", 0, 0);
        waiting(run, 0).make("done", 0, 0, 1).due(0, "read", 0, 0);
    }

    private void dueTicks() {
        Run run = reader("Terms: those that are due (their due tick is not above now)", 1);
        reads(send(run, 1), 0, 0).due(2, "retry", 0, 0, 0).due(NONE, "read", 0, 0).make("tick", 1)
                .due(NONE, "read", 0, 0);
        run.make("tick", 1).due(0, "read", 0, 0);
    }

    private void theLeastDueTick() {
        Run run = reader("Terms: the one with the least due tick, of several the least message number", 1);
        send(run, 1, 2, 3, 4);
        reads(run, 0, 0, 1, 2, 3).due(2, "retry", 0, 0, 3).make("tick", 1).due(3, "retry", 0, 0, 1)
                .due(3, "retry", 0, 0, 0);
        run.due(3, "retry", 0, 0, 2).make("tick", 9).make("beat", 0, 0);
        waiting(run, 3, 0, 1, 2);
        reads(run, 0, 3, 0, 1, 2, NONE);
    }

    private void firstMessagesOfRows() {
        Run run = reader("Terms: of the first messages of the waiting rows: not a later one, though it is due before", 1);
        send(run, 1, 1, 2);
        reads(run, 0, 0, 1, 2).due(2, "retry", 0, 0, 0);
        waiting(run, 1, 0).due(0, "waits", 0, 0, 1).due(NONE, "read", 0, 0).due(2, "retry", 0, 0, 2).make("tick", 2);
        reads(run, 0, 0, 1, 2, NONE);
    }

    private void rowsOfOthers() {
        Run run = reader("Terms: the waiting rows of the partitions that the member owns", 2);
        send(run, 0, 1);
        reads(run, 0, 0, 1).due(2, "retry", 0, 0, 0).due(2, "retry", 0, 0, 1).make("join", 0).make("beat", 0, 0);
        run.make("beat", 0, 1).make("tick", 2);
        reads(run, 1, 1, NONE);
        reads(run, 0, 0, NONE);
    }

    private void aroundThePartitions() {
        Run run = reader(
                "Terms: rising, from behind the one of the latest message, and around; from the least on at first", 3);
        send(run, 0, 0, 1, 1, 2, 2);
        reads(run, 0, 0, 2, 4, 1, 3, 5, NONE);
        send(run, 1, 1, 0);
        reads(run, 0, 8, 6, 7, NONE);
    }

    private void thatOneLast() {
        Run run = reader("Terms: .. and around, that one last: the last partition, and a first that is not 0", 3);
        send(run, 2, 2, 1);
        reads(run, 0, 2, 0, 1, NONE);
        send(run, 2, 0, 2);
        reads(run, 0, 4, 3, 5, NONE);
    }

    private void theLatestOfARowDoesNotCount() {
        Run run = reader("Terms: .. the latest message was delivered to it (not one of a waiting row)", 3);
        send(run, 0, 1, 1, 2);
        reads(run, 0, 0).due(2, "retry", 0, 0, 0);
        reads(run, 0, 1, 3).make("tick", 2);
        reads(run, 0, 0);
        send(run, 0);
        reads(run, 0, 4, 2, NONE);
    }

    private void partitionsWithoutALeader() {
        Run run = reader("Terms: those without a leader are left out, but for waiting rows", 2);
        send(run, 0, 0, 1);
        reads(run, 0, 0).due(2, "retry", 0, 0, 0).make("fail", 0);
        reads(run, 0, 2, NONE).due(1, "share", 0, 0, 3).make("tick", 2);
        reads(run, 0, 0, NONE).make("restore", 0);
        reads(run, 0, 1, NONE);
    }

    private void whatCannotBeRead() {
        Run run = run(
                "Terms: the next message that can be read: not one at the stable offset; ABORTED ones are left out");
        run.make("topic", 1, 2, 0).make("producer").make("producer").make("speed", 0).make("group", 1).make("join", 0);
        run.make("beat", 0, 0).make("begin", 1).make("send", 0, 0, 1, 1).make("send", 1, 0, 2, 1)
                .make("send", 0, 0, 3, 1);
        run.due(NONE, "read", 0, 0).due(0, "share", 0, 0, 3).due(3, "fetch", 1).due(1, "partition", 0, 4);
        reads(run, 0, 0, NONE).due(1, "share", 0, 0, 3).make("abort", 1);
        reads(run, 0, 2, NONE).due(3, "share", 0, 0, 3).due(0, "seen", 0, 1);
    }

    private void gapsInTheLog() {
        Run run = run("Terms: at the offset from which the member reads on or behind it: over gaps");
        run.make("topic", 1, 1, 1).make("producer").make("group", 1).make("join", 0).make("beat", 0, 0);
        send(run, 1, 1, 1, 2).due(2, "compact", 0);
        reads(run, 0, 2).due(3, "share", 0, 0, 3);
        reads(run, 0, 3, NONE).due(1, "audit", 6);
    }

    private void waitingOnesArePassedOver() {
        Run run = reader("Terms: if it is in a waiting row it is passed over", 1);
        send(run, 1, 2);
        reads(run, 0, 0, 1).due(2, "retry", 0, 0, 0).make("leave", 0, 0).make("join", 0).make("beat", 0, 1);
        reads(run, 1, 1, NONE).due(2, "share", 0, 0, 3);
        waiting(run, 0).dueEach(new int[] {0, 2, 1}, "waits", 0, 0);
    }

    private void thoseInTheHandArePassedOver() {
        Run run = reader("Terms: if it is in the member's hand it is passed over", 1);
        send(run, 1, 2);
        reads(run, 0, 0, 1).due(2, "retry", 0, 0, 0).make("leave", 0, 0).make("join", 0).make("beat", 0, 1)
                .make("tick", 2);
        reads(run, 1, 0).due(0, "share", 0, 0, 3);
        reads(run, 1, 1, NONE);
        holds(run, 1, 0, 1).due(2, "share", 0, 0, 3).due(2, "seen", 0, 0).due(1, "hand", 0, 1, 0, 1);
    }

    private void deadLettersArePassedOver() {
        Run run = reader("Terms: if it is a dead letter of the group it is passed over", 1);
        deadLetter(send(run, 1, 1));
        run.make("leave", 0, 0).make("join", 0).make("beat", 0, 1);
        reads(run, 1, 1, NONE).due(2, "share", 0, 0, 3).due(3, "seen", 0, 0).due(0, "dead", 0, 0);
    }

    private void deadLettersOfAnotherGroup() {
        Run run = reader("Terms: a dead letter of the group, not of another one", 1);
        run.make("group", 1).make("join", 1).make("beat", 1, 0);
        deadLetter(send(run, 1)).due(0, "read", 1, 0).due(1, "seen", 1, 0).due(0, "ofGroup", 1, 4);
    }

    private void intoARowThatIsNotEmpty() {
        Run run = reader(
                "Terms: if the waiting row of its key is not empty, it comes into that, due now, without attempts", 1);
        send(run, 1, 1, 2);
        reads(run, 0, 0).due(2, "retry", 0, 0, 0).make("tick", 1);
        reads(run, 0, 2);
        waiting(run, 1, 0).dueEach(new int[] {1, 1, 0}, "waits", 0, 0).due(0, "seen", 0, 1);
    }

    private void rowsStaySoThoughNothingIsDelivered() {
        Run run = reader(
                "Terms: rows and offsets that were altered so stay so, also if nothing is delivered in the end", 1);
        send(run, 1, 1, 1);
        reads(run, 0, 0).due(2, "retry", 0, 0, 0).due(NONE, "read", 0, 0).due(3, "share", 0, 0, 3);
        waiting(run, 1, 2, 0).make("tick", 2);
        reads(run, 0, 0, 1, 2, NONE);
    }

    private void rowsAreByRisingOffsets() {
        Run run = reader("Terms: a waiting row: messages by rising offsets, also if a lower one comes into it later", 1);
        send(run, 1, 1);
        reads(run, 0, 0, 1).due(2, "retry", 0, 0, 1).make("leave", 0, 0).make("join", 0).make("beat", 0, 1);
        reads(run, 1, NONE).due(2, "share", 0, 0, 3);
        waiting(run, 0, 1).dueEach(new int[] {0, 0, 0}, "waits", 0, 0).make("tick", 2);
        reads(run, 1, 0, 1, NONE).due(1, "audit", 6);
    }

    private void theRowOfAnotherPartitionOrKey() {
        Run run = run("Terms: a waiting row for each key of each of its partitions: no other key, no other partition");
        run.make("topic", 1, 1, 0).make("topic", 1, 1, 0).make("producer").make("group", 3).make("join", 0)
                .make("beat", 0, 0);
        run.make("send", 0, 0, 1, 1).make("send", 0, 1, 1, 1).make("send", 0, 0, 2, 1).make("credits", 0, 0, 9);
        reads(run, 0, 0).due(2, "retry", 0, 0, 0);
        reads(run, 0, 1, 2, NONE);
        waiting(run, 0);
    }

    private void deliveredAnewFromItsLog() {
        Run run = reader("Terms: a message that is delivered anew from its log begins without attempts", 1);
        reads(send(run, 1), 0, 0).due(2, "retry", 0, 0, 0).make("tick", 2);
        reads(run, 0, 0).due(1, "hand", 0, 0, 0, 1).due(1, "hand", 0, 0, 0, 2).make("done", 0, 0, 0).make("leave", 0, 0);
        run.make("join", 0).make("beat", 0, 1).due(0, "read", 0, 1).dueEach(new int[] {0, 0, 0}, "hand", 0, 1, 0);
        run.due(4, "retry", 0, 1, 0);
    }

    private void removedOnesWait() {
        Run run = reader(
                "Terms: REMOVED: from a waiting row it is delivered all the same; it stays in hands and dead letters", 1);
        deadLetter(send(run, 1)).due(1, "send", 0, 0, 1, 1);
        send(run, 2, 3);
        reads(run, 0, 1, 2).due(8, "retry", 0, 0, 1).make("retain", 0, 0, 60).make("tick", 2);
        for (int message = 0; message < 4; message++) {
            run.due(3, "message", message, 0);
        }
        reads(run, 0, 1, NONE);
        holds(run, 0, 2, 1).due(0, "dead", 0, 0).due(10, "retry", 0, 0, 2).due(1, "audit", 6);
    }

    // ======== promise 26

    private void doneOfNoGroupOrMember() {
        Run run = reader("promise 26: IndexOutOfBoundsException if there is no such group, or member in it", 1);
        reads(send(run, 1), 0, 0).noneOutside(0, 0, 0, "done", 0, 0, 0).noneOutside(0, 0, 1, "done", 0, 0, 0);
        run.due(0, "done", 0, 0, 0);
    }

    private void doneOfWhatIsNotInTheHand() {
        Run run = reader(
                "promise 26: IllegalStateException if the message is not in its hand: none such, waiting, not read, done", 2);
        send(run, 0, 2, 1, 4);
        reads(run, 0, 0, 2, 1).due(2, "retry", 0, 0, 1).make("join", 0).make("beat", 0, 0).make("beat", 0, 1);
        reads(run, 1, 2).refusedByHand("done", 0, 0, -1, 1, 2, 3, 4, 150).due(0, "done", 0, 0, 0);
        run.refusedByHand("done", 0, 0, 0).refusedByHand("done", 0, 1, 0).due(0, "done", 0, 1, 2);
    }

    private void howManyTheHandHas() {
        Run run = reader("promise 26: returns how many messages the hand has then: from 9 down to 0, in any order", 1);
        send(run, 0, 1, 2, 3, 4, 5, 6, 7, 8);
        reads(run, 0, 0, 1, 2, 3, 4, 5, 6, 7, 8).due(8, "done", 0, 0, 8).due(7, "done", 0, 0, 0).due(6, "done", 0, 0, 4);
        holds(run, 0, 1, 2, 3, 5, 6, 7).due(5, "done", 0, 0, 1).due(4, "done", 0, 0, 7).due(3, "done", 0, 0, 3);
        run.due(2, "done", 0, 0, 2).due(1, "done", 0, 0, 5).due(0, "done", 0, 0, 6).noPlace("hand", 0, 0, 0, 0);
    }

    // ======== promise 27

    private void retryOfNoGroupOrMember() {
        Run run = reader("promise 27: IndexOutOfBoundsException if there is no such group, or member in it", 1);
        reads(send(run, 1), 0, 0).noneOutside(0, 0, 0, "retry", 0, 0, 0).noneOutside(0, 0, 1, "retry", 0, 0, 0);
        run.due(2, "retry", 0, 0, 0);
    }

    private void retryOfWhatIsNotInTheHand() {
        Run run = reader(
                "promise 27: IllegalStateException if the message is not in its hand: none such, waiting, not read, done", 2);
        send(run, 0, 2, 1, 4);
        reads(run, 0, 0, 2, 1).due(2, "retry", 0, 0, 1).make("join", 0).make("beat", 0, 0).make("beat", 0, 1);
        reads(run, 1, 2).refusedByHand("retry", 0, 0, -1, 1, 2, 3, 4, 150).due(2, "retry", 0, 0, 0);
        run.refusedByHand("retry", 0, 0, 0).refusedByHand("retry", 0, 1, 0).due(2, "retry", 0, 1, 2);
    }

    private void whichComesFirstInDoneAndRetry() {
        Run run = reader("promises 26, 27: no such group or member comes first", 1);
        for (String name : new String[] {"done", "retry"}) {
            run.noPlace(name, 1, 0, 0).noPlace(name, 0, 1, 0).noPlace(name, -1, 0, -1).state(name, 0, 0, 0);
        }
    }

    private void threeFailures() {
        Run run = reader(
                "Terms: due in 2 ticks behind its first failure, in 4 behind its second; with 3 it is a dead letter", 1);
        send(run, 1).make("tick", 5).make("beat", 0, 0);
        reads(run, 0, 0).due(7, "retry", 0, 0, 0).dueEach(new int[] {0, 7, 1}, "waits", 0, 0).make("tick", 2);
        reads(run, 0, 0).due(11, "retry", 0, 0, 0).dueEach(new int[] {0, 11, 2}, "waits", 0, 0).make("tick", 3);
        reads(run, 0, NONE).make("tick", 1);
        reads(run, 0, 0).dueEach(new int[] {0, 2, 1}, "hand", 0, 0, 0).due(NONE, "retry", 0, 0, 0).due(0, "dead", 0, 0);
        waiting(run).due(0, "member", 0, 0, 3).make("tick", 4).due(NONE, "read", 0, 0);
    }

    private void thoseBehindInTheHand() {
        Run run = reader(
                "Terms: all of the same key and partition that stand behind it leave the hand, due now; not those ahead", 2);
        send(run, 0, 0, 0, 2, 1, 0);
        reads(run, 0, 0, 4, 1, 2, 3, 5).due(2, "retry", 0, 0, 1);
        holds(run, 0, 0, 4, 3);
        waiting(run, 2, 5, 1).dueEach(new int[] {2, 0, 0}, "waits", 0, 0).dueEach(new int[] {1, 2, 1}, "waits", 0, 2);
    }

    private void thoseOfTheSameKeyElsewhere() {
        Run run = run("Terms: of the same key and partition: not those of the same key in a partition of another topic");
        run.make("topic", 1, 1, 0).make("topic", 1, 1, 0).make("producer").make("group", 3).make("join", 0)
                .make("beat", 0, 0);
        run.make("send", 0, 0, 1, 1).make("send", 0, 1, 1, 1).make("send", 0, 0, 1, 1);
        reads(run, 0, 0, 1, 2).due(2, "retry", 0, 0, 0);
        holds(run, 0, 1);
        waiting(run, 2, 0);
    }

    private void noneBehindInTheHand() {
        Run run = reader(
                "Terms: without any behind it only the one that failed leaves the hand: the last, and the only one", 1);
        send(run, 1, 1);
        reads(run, 0, 0, 1).due(2, "retry", 0, 0, 1);
        holds(run, 0, 0);
        waiting(run, 1).due(2, "retry", 0, 0, 0);
        holds(run, 0);
        waiting(run, 0, 1).make("tick", 2);
        reads(run, 0, 0, 1);
    }

    private void thoseBehindADeadLetter() {
        Run run = reader("Terms: in both cases: behind a dead letter, too, with the attempts that they have", 1);
        send(run, 1, 1);
        reads(run, 0, 0, 1).due(2, "retry", 0, 0, 1).due(2, "retry", 0, 0, 0).make("tick", 2);
        reads(run, 0, 0, 1).due(6, "retry", 0, 0, 0);
        waiting(run, 1, 0).dueEach(new int[] {1, 2, 1}, "waits", 0, 0).make("tick", 4);
        reads(run, 0, 0, 1).due(NONE, "retry", 0, 0, 0).dueEach(new int[] {1, 6, 1}, "waits", 0, 0);
        holds(run, 0);
        reads(run, 0, 1).due(10, "retry", 0, 0, 1).dueEach(new int[] {1, 10, 2}, "waits", 0, 0);
    }

    // ======== promise 28

    private void commitOffsetsOfNoGroupOrMember() {
        Run run = reader("promise 28: IndexOutOfBoundsException if there is no such group, or member in it", 1);
        reads(send(run, 1), 0, 0).make("done", 0, 0, 0).noneOutside(0, 0, 0, "commitOffsets", 0, 0);
        run.noneOutside(0, 0, 1, "commitOffsets", 0, 0).due(1, "commitOffsets", 0, 0);
    }

    private void howManyOffsetsAreOthers() {
        Run run = reader(
                "promise 28: returns of how many partitions the committed offset is another one then: 0, some, all", 3);
        run.due(0, "commitOffsets", 0, 0);
        send(run, 0, 1, 2, 2);
        reads(run, 0, 0, 1, 2, 3).due(0, "commitOffsets", 0, 0).make("done", 0, 0, 1).due(1, "commitOffsets", 0, 0);
        run.due(0, "commitOffsets", 0, 0).make("done", 0, 0, 0).make("done", 0, 0, 2).due(2, "commitOffsets", 0, 0);
        run.due(1, "share", 0, 0, 2).due(1, "share", 0, 1, 2).due(1, "share", 0, 2, 2).make("join", 0);
        run.due(0, "commitOffsets", 0, 1).due(0, "commitOffsets", 0, 0);
    }

    private void thePlaceOfAPartition() {
        Run run = reader(
                "Terms: the least offset of its messages in the hand, or, without one, the offset from which it reads on", 1);
        send(run, 1, 2, 3);
        reads(run, 0, 0, 1, 2).make("done", 0, 0, 1).due(0, "commitOffsets", 0, 0).make("done", 0, 0, 0);
        run.due(1, "commitOffsets", 0, 0).due(2, "share", 0, 0, 2).make("done", 0, 0, 2).due(1, "commitOffsets", 0, 0);
        run.due(3, "share", 0, 0, 2);
    }

    private void thePlaceOfWhatWaited() {
        Run run = reader("Terms: .. messages in the hand that were not delivered from a waiting row", 1);
        send(run, 1, 2);
        reads(run, 0, 0, 1).due(2, "retry", 0, 0, 0).due(1, "commitOffsets", 0, 0).due(1, "share", 0, 0, 2)
                .make("tick", 2);
        reads(run, 0, 0).make("done", 0, 0, 1).due(1, "commitOffsets", 0, 0).due(2, "share", 0, 0, 2).due(1, "audit", 4);
    }

    // ======== promise 29

    private void seekOfNoGroupOrPartition() {
        Run run = run("promise 29: IndexOutOfBoundsException if there is no such group, or it has no such partition");
        run.make("topic", 1, 1, 0).make("topic", 2, 1, 0).make("topic", 1, 1, 0).make("group", 2);
        run.noneOutside(0, 0, 0, "seek", 0, 1, 5).noneOutside(1, 2, 1, "seek", 0, 1, 5).noPlace("seek", 0, 4, 5);
        run.due(0, "seek", 0, 1, 5).due(0, "seek", 0, 2, 6).due(5, "seek", 0, 1, 0);
    }

    private void offsetsOfSeek() {
        Run run = group("promise 29: offset: 0 to 60", 1).badOutside(0, 60, 2, "seek", 0, 0, 5);
        run.due(0, "seek", 0, 0, 60).due(60, "seek", 0, 0, 0).due(0, "share", 0, 0, 2)
                .badOutside(0, 60, 2, "seek", 0, 0, 5);
    }

    private void seekOfAnOwnedPartitionWithMessages() {
        Run run = reader(
                "promise 29: IllegalStateException if the partition has an owner: rows and dead letters stay", 1);
        deadLetter(send(run, 1, 2, 3));
        reads(run, 0, 1, 2).due(8, "retry", 0, 0, 1).state("seek", 0, 0, 0).state("seek", 0, 0, 60);
        waiting(run, 1).due(0, "dead", 0, 0).make("leave", 0, 0).due(0, "seek", 0, 0, 3);
        waiting(run).noPlace("dead", 0, 0);
    }

    private void seekOfAnOwnedPartition() {
        Run run = group(
                "promise 29: IllegalStateException if the partition has an owner: a target is none", 1).make("join", 0);
        run.due(0, "seek", 0, 0, 1).make("beat", 0, 0).state("seek", 0, 0, 2).state("seek", 0, 0, 0).make("leave", 0, 0);
        run.due(1, "seek", 0, 0, 2);
    }

    private void whichComesFirstInSeek() {
        Run run = reader("promise 29: no such group or partition comes first, then the offset, then an owner", 1);
        run.noPlace("seek", 1, 0, 61).noPlace("seek", 0, 1, -1).bad("seek", 0, 0, 61).bad("seek", 0, 0, -1);
        run.state("seek", 0, 0, 60);
    }

    private void seekBehindTheEnd() {
        Run run = group("promise 29: an offset behind the end of the log, and at its end", 1);
        send(run, 1, 2).due(0, "seek", 0, 0, 60).due(0, "share", 0, 0, 4).make("join", 0).make("beat", 0, 0);
        send(run, 3).due(60, "share", 0, 0, 3).due(NONE, "read", 0, 0).due(0, "commitOffsets", 0, 0)
                .due(60, "share", 0, 0, 2);
        run.make("leave", 0, 0).due(60, "seek", 0, 0, 3).make("join", 0).make("beat", 0, 1).due(NONE, "read", 0, 1);
        send(run, 4);
        reads(run, 1, 3, NONE).due(1, "audit", 6);
    }

    private void seekBelowTheFirstOffset() {
        Run run = group("promise 29: an offset below the first one of the partition", 1);
        send(run, 1, 2).make("retain", 0, 999, 1).make("tick", 1).due(0, "seek", 0, 0, 0).make("join", 0)
                .make("beat", 0, 0);
        run.due(1, "share", 0, 0, 3).due(1, "read", 0, 0).due(1, "audit", 6);
    }

    private void seekEmptiesRowsAndDeadLetters() {
        Run run = reader(
                "promise 29: all messages of it leave the waiting rows and the dead letters of the group, no others", 2);
        run.make("group", 1).make("join", 1).make("beat", 1, 0);
        deadLetter(send(run, 0));
        send(run, 2, 2, 1);
        reads(run, 0, 3, 1, 2).due(8, "retry", 0, 0, 1).due(8, "retry", 0, 0, 3).due(0, "read", 1, 0)
                .due(8, "retry", 1, 0, 0);
        waiting(run, 2, 1, 3).make("leave", 0, 0).due(0, "seek", 0, 0, 0);
        waiting(run, 3).due(0, "ofGroup", 0, 4).noPlace("dead", 0, 0).due(1, "ofGroup", 1, 3).make("join", 0);
        run.make("beat", 0, 1);
        reads(run, 1, 0, 1, 2, NONE).dueEach(new int[] {0, 0, 0}, "hand", 0, 1, 0).due(4, "seen", 0, 0)
                .due(1, "audit", 6);
    }

    private void seekWithNothingToEmpty() {
        Run run = group("promise 29: without any messages only the offset is another one", 1);
        run.due(0, "seek", 0, 0, 0).due(0, "ofGroup", 0, 3).due(0, "ofGroup", 0, 4).due(0, "ofGroup", 0, 0);
    }
}
