/** Promises 30 to 46: the questions. */
public final class QuestionsTest {
    private static final int MIN = Integer.MIN_VALUE;
    private static final int MAX = Integer.MAX_VALUE;
    private static final int NONE = -1;
    private final Check check = new Check();

    public static void main(String[] args) {
        QuestionsTest test = new QuestionsTest();
        test.message();
        test.at();
        test.partition();
        test.replica();
        test.offsetAt();
        test.value();
        test.sum();
        test.share();
        test.member();
        test.hand();
        test.waits();
        test.dead();
        test.seen();
        test.count();
        test.ofGroup();
        test.audit();
        test.digest();
        test.check.end();
    }

    private Run run(String about) {
        return new Run(check, about);
    }

    /** The question must refuse each number below and above those that it has an answer to. */
    private void onlyUpTo(Run run, int most, String name, int... before) {
        int[] numbers = java.util.Arrays.copyOf(before, before.length + 1);
        for (int what : new int[] {MIN, -1, most + 1, MAX}) {
            numbers[before.length] = what;
            run.bad(name, numbers);
        }
    }

    /** With a place that is none, the place is refused first, whatever else is wrong. */
    private void noneOf(Run run, int[] none, String name, int at, int... numbers) {
        for (int wrong : none) {
            int[] asked = numbers.clone();
            asked[at] = wrong;
            run.noPlace(name, asked);
            asked[asked.length - 1] = at == asked.length - 1 ? wrong : -7;
            run.noPlace(name, asked);
        }
    }

    private void message() {
        Run run = run("promise 30");
        run.noPlace("message", 0, 0).make("topic", 2, 2, 0).make("producer").make("producer").make("tick", 3);
        run.make("send", 1, 0, -5, 999).make("sendLater", 0, 0, 4, NONE, 2);
        int[] first = {1, 0, 1, 1, 0, -5, 999, 3, 0};
        int[] second = {0, 0, 0, 0, NONE, 4, NONE, NONE, 0};
        for (int what = 0; what <= 8; what++) {
            run.due(first[what], "message", 0, what).due(second[what], "message", 1, what);
        }
        onlyUpTo(run, 8, "message", 0);
        noneOf(run, new int[] {MIN, -1, 2, 150, MAX}, "message", 0, 0, 0);
        run.make("tick", 1).due(1, "message", 0, 8).make("begin", 1).make("send", 1, 0, 1, 1).due(1, "message", 2, 1);
        run.due(1, "fail", 1).due(2, "message", 2, 0).due(3, "message", 2, 1).due(NONE, "message", 2, 4);
        run.due(4, "message", 2, 7).due(0, "message", 2, 8).due(1, "message", 0, 0);
    }

    private void at() {
        Run run = run("promise 31");
        run.make("topic", 2, 1, 1).make("producer").make("send", 0, 0, 1, 1).make("send", 0, 0, 1, 2);
        run.due(0, "at", 1, 0).due(1, "at", 1, 1).due(NONE, "at", 1, 2).due(NONE, "at", 1, 60).due(NONE, "at", 1, MAX);
        run.due(NONE, "at", 0, 0).noPlace("at", 0, -1).noPlace("at", 0, MIN).make("compact", 1).due(NONE, "at", 1, 0);
        noneOf(run, new int[] {MIN, -1, 2, 9, MAX}, "at", 0, 0, 0);
    }

    private void partition() {
        Run run = run("promise 32");
        run.noPlace("partition", 0, 0).make("topic", 1, 1, 0).make("topic", 1, 3, 0).make("producer").make("speed", 1);
        run.times(3, "send", 0, 1, 1, 1).make("begin", 0).make("send", 0, 1, 1, 1).make("tick", 1);
        int[] due = {1, 0, 7, 1, 1, 0, 4, 4};
        for (int what = 0; what <= 7; what++) {
            run.due(due[what], "partition", 1, what);
        }
        onlyUpTo(run, 7, "partition", 1);
        noneOf(run, new int[] {MIN, -1, 2, 9, MAX}, "partition", 0, 0, 0);
        run.make("fetch", 2).make("fetch", 0).due(4, "partition", 1, 3).due(3, "partition", 1, 4);
        run.make("retain", 1, 999, 1).make("tick", 1).due(3, "partition", 1, 5).due(1, "partition", 1, 7);
        run.due(4, "partition", 1, 6).make("fail", 1).due(1, "partition", 1, 1).due(6, "partition", 1, 2);
        run.make("fail", 2).make("fail", 0).due(NONE, "partition", 1, 1).due(4, "partition", 1, 2).due(4, "partition", 1, 6);
    }

    private void replica() {
        Run run = run("promise 33");
        run.noPlace("replica", 0, 0, 0).make("topic", 2, 2, 0).make("producer").make("tick", 2).make("send", 0, 0, 1, 1);
        run.due(1, "replica", 1, 0, 0).due(2, "replica", 1, 1, 0).due(1, "replica", 1, 0, 1).due(0, "replica", 1, 1, 1);
        run.due(0, "replica", 1, 0, 2).due(2, "replica", 1, 1, 2);
        onlyUpTo(run, 2, "replica", 1, 1);
        noneOf(run, new int[] {MIN, -1, 2, 3, MAX}, "replica", 0, 0, 0, 0);
        noneOf(run, new int[] {MIN, -1, 2, 3, MAX}, "replica", 1, 0, 0, 0);
        run.due(1, "fail", 1).due(0, "replica", 1, 0, 1).due(1, "audit", 0);
    }

    private void offsetAt() {
        Run run = run("promise 34");
        run.make("topic", 2, 1, 1).make("producer").make("tick", 2).make("send", 0, 0, 1, 1).make("tick", 2);
        run.make("send", 0, 0, 1, 1).make("send", 0, 0, 3, 1).due(0, "offsetAt", 1, MIN).due(0, "offsetAt", 1, 2);
        run.due(1, "offsetAt", 1, 3).due(1, "offsetAt", 1, 4).due(3, "offsetAt", 1, 5).due(3, "offsetAt", 1, MAX);
        run.due(0, "offsetAt", 0, 0).make("compact", 1).due(1, "offsetAt", 1, 0);
        noneOf(run, new int[] {MIN, -1, 2, MAX}, "offsetAt", 0, 0, 0);
        Run above = run("promise 34, above the high watermark");
        above.make("topic", 1, 2, 0).make("producer").make("send", 0, 0, 1, 1).due(0, "offsetAt", 0, 0);
    }

    private void value() {
        Run run = run("promise 35");
        run.make("topic", 2, 2, 0).make("producer").make("send", 0, 0, -3, 5).due(NONE, "value", 0, -3).make("fetch", 2);
        run.due(5, "value", 0, -3).due(NONE, "value", 0, 1).due(NONE, "value", 0, 3).make("send", 0, 0, -3, NONE);
        run.make("send", 0, 0, 1, 6).due(5, "value", 0, -3).make("fetch", 2).due(NONE, "value", 0, -3).due(6, "value", 0, 1);
        run.make("begin", 0).make("send", 0, 0, 1, 7).make("fetch", 2).due(6, "value", 0, 1).make("abort", 0);
        run.due(6, "value", 0, 1).make("send", 0, 0, 1, 0).make("fetch", 2).due(0, "value", 0, 1);
        noneOf(run, new int[] {MIN, -1, 1, MAX}, "value", 0, 0, 0);
        run.make("retain", 0, 0, 60).make("tick", 1).due(NONE, "value", 0, 1).due(NONE, "value", 0, MIN);
    }

    private void sum() {
        Run run = run("promise 36");
        run.make("topic", 2, 1, 0).make("producer").make("producer").make("send", 0, 0, -1, 10).make("tick", 1);
        run.make("send", 0, 0, -1, NONE).make("send", 0, 0, -1, 20).make("send", 0, 0, 1, 900).make("tick", 1);
        run.make("send", 0, 0, -1, 40).make("begin", 1).make("send", 1, 0, -1, 80);
        run.due(70, "sum", 0, -1, 0, 2).due(70, "sum", 0, -1, MIN, MAX).due(10, "sum", 0, -1, 0, 0).due(20, "sum", 0, -1, 1, 1);
        run.due(60, "sum", 0, -1, 1, 9).due(30, "sum", 0, -1, -5, 1).due(0, "sum", 0, -1, 2, 1).due(0, "sum", 0, 3, 0, 9);
        run.due(900, "sum", 0, 1, 0, 9).make("abort", 1).due(70, "sum", 0, -1, 0, 9).make("retain", 0, 999, 2).make("tick", 1);
        run.due(40, "sum", 0, -1, 0, 9);
        for (int topic : new int[] {MIN, -1, 1, MAX}) {
            run.noPlace("sum", topic, 1, 0, 9);
        }
    }

    private void share() {
        Run run = run("promise 37");
        run.make("topic", 1, 1, 0).make("topic", 2, 1, 0).make("producer").make("group", 2);
        run.times(3, "send", 0, 1, 0, 1).make("send", 0, 1, 2, 1).make("send", 0, 1, 1, 1);
        int[] none = {NONE, NONE, 0, NONE, 4, 0, 0};
        for (int what = 0; what <= 6; what++) {
            run.due(none[what], "share", 0, 1, what);
        }
        onlyUpTo(run, 6, "share", 0, 1);
        noneOf(run, new int[] {MIN, -1, 1, 3, MAX}, "share", 0, 0, 1, 0);
        noneOf(run, new int[] {MIN, -1, 0, 3, 9, MAX}, "share", 1, 0, 1, 0);
        run.make("join", 0).due(0, "share", 0, 1, 1).due(NONE, "share", 0, 1, 0).make("beat", 0, 0);
        run.make("credits", 0, 0, 9).times(5, "read", 0, 0).make("retry", 0, 0, 1).make("tick", 2).times(3, "read", 0, 0);
        run.make("done", 0, 0, 0).make("commitOffsets", 0, 0);
        int[] due = {0, 0, 3, 4, 1, 0, 0};
        for (int what = 0; what <= 6; what++) {
            run.due(due[what], "share", 0, 1, what);
        }
        run.due(1, "share", 0, 2, 3).due(0, "share", 0, 2, 2).due(1, "share", 0, 2, 4).make("retry", 0, 0, 4);
        run.due(0, "share", 0, 2, 4).due(1, "share", 0, 2, 5).due(0, "share", 0, 1, 5).make("tick", 2).make("read", 0, 0);
        run.make("retry", 0, 0, 4).make("tick", 4).make("read", 0, 0).due(NONE, "retry", 0, 0, 4);
        run.due(0, "share", 0, 2, 5).due(1, "share", 0, 2, 6).due(0, "share", 0, 2, 4).due(0, "share", 0, 1, 6);
    }

    private void member() {
        Run run = run("promise 38");
        run.make("topic", 3, 1, 0).make("producer").make("group", 1).make("join", 0).make("tick", 4).make("join", 0);
        run.make("beat", 0, 0).make("join", 0).make("send", 0, 0, 0, 1).make("read", 0, 0).make("credits", 0, 0, 7);
        int[] first = {2, 1, 7, 1, 4};
        int[] second = {0, 1, 3, 0, 4};
        for (int what = 0; what <= 4; what++) {
            run.due(first[what], "member", 0, 0, what).due(second[what], "member", 0, 1, what);
        }
        onlyUpTo(run, 4, "member", 0, 0);
        run.make("leave", 0, 1);
        noneOf(run, new int[] {MIN, -1, 1, MAX}, "member", 0, 0, 0, 0);
        noneOf(run, new int[] {MIN, -1, 1, 3, 12, MAX}, "member", 1, 0, 0, 0);
    }

    private void hand() {
        Run run = run("promise 39");
        run.make("topic", 1, 1, 0).make("producer").make("group", 1).make("join", 0).make("beat", 0, 0);
        run.make("send", 0, 0, 1, 1).make("send", 0, 0, 2, 1).times(2, "read", 0, 0).make("retry", 0, 0, 0).make("tick", 2);
        run.make("read", 0, 0);
        int[] first = {1, 0, 0};
        int[] second = {0, 1, 1};
        for (int what = 0; what <= 2; what++) {
            run.due(first[what], "hand", 0, 0, 0, what).due(second[what], "hand", 0, 0, 1, what);
        }
        onlyUpTo(run, 2, "hand", 0, 0, 1);
        noneOf(run, new int[] {MIN, -1, 1, MAX}, "hand", 0, 0, 0, 0, 0);
        noneOf(run, new int[] {MIN, -1, 1, 12, MAX}, "hand", 1, 0, 0, 0, 0);
        noneOf(run, new int[] {MIN, -1, 2, 9, MAX}, "hand", 2, 0, 0, 0, 0);
    }

    private void waits() {
        Run run = run("promise 40");
        run.make("topic", 1, 1, 0).make("producer").make("group", 1).make("join", 0).make("beat", 0, 0);
        run.noPlace("waits", 0, 0, 0).make("send", 0, 0, 1, 1).make("send", 0, 0, 2, 1).make("send", 0, 0, 1, 1);
        run.times(3, "read", 0, 0).make("tick", 1).make("retry", 0, 0, 1).make("retry", 0, 0, 0);
        int[][] due = {{2, 1, 0}, {0, 3, 1}, {1, 3, 1}};
        for (int place = 0; place < 3; place++) {
            for (int what = 0; what <= 2; what++) {
                run.due(due[place][what], "waits", 0, place, what);
            }
        }
        onlyUpTo(run, 2, "waits", 0, 2);
        noneOf(run, new int[] {MIN, -1, 1, MAX}, "waits", 0, 0, 0, 0);
        noneOf(run, new int[] {MIN, -1, 3, 150, MAX}, "waits", 1, 0, 0, 0);
    }

    private void dead() {
        Run run = run("promise 41");
        run.make("topic", 1, 1, 0).make("producer").make("group", 1).make("join", 0).make("beat", 0, 0);
        run.make("send", 0, 0, 1, 1).make("send", 0, 0, 2, 1).noPlace("dead", 0, 0);
        for (int ticks : new int[] {2, 4, 1}) {
            run.times(2, "read", 0, 0).make("retry", 0, 0, 1).make("retry", 0, 0, 0).make("tick", ticks);
        }
        run.due(1, "dead", 0, 0).due(0, "dead", 0, 1).due(2, "ofGroup", 0, 4);
        noneOf(run, new int[] {MIN, -1, 1, MAX}, "dead", 0, 0, 0);
        noneOf(run, new int[] {MIN, -1, 2, 150, MAX}, "dead", 1, 0, 0);
    }

    private void seen() {
        Run run = run("promise 42");
        run.make("topic", 1, 1, 0).make("producer").make("group", 1).make("group", 1).make("join", 0).make("beat", 0, 0);
        run.noPlace("seen", 0, 0).make("send", 0, 0, 1, 1).due(0, "seen", 0, 0).make("read", 0, 0).due(1, "seen", 0, 0);
        run.due(0, "seen", 1, 0).make("leave", 0, 0).make("seek", 0, 0, 0).due(1, "seen", 0, 0).make("join", 0);
        run.make("beat", 0, 1).make("read", 0, 1).due(2, "seen", 0, 0).make("done", 0, 1, 0).due(2, "seen", 0, 0);
        noneOf(run, new int[] {MIN, -1, 2, MAX}, "seen", 0, 0, 0);
        noneOf(run, new int[] {MIN, -1, 1, 150, MAX}, "seen", 1, 0, 0);
    }

    private void count() {
        Run run = run("promise 43");
        run.make("topic", 2, 2, 0).make("topic", 1, 1, 0).times(3, "producer").make("group", 1).make("group", 2);
        run.make("tick", 5).make("begin", 0).make("begin", 2).times(2, "send", 0, 0, 0, 1).make("send", 0, 0, 1, 1);
        run.make("send", 1, 0, 0, 1).times(2, "sendLater", 1, 0, 0, 1, 3).make("fail", 0);
        int[] due = {2, 3, 3, 2, 6, 5, 6, 2, 3, 2};
        for (int what = 0; what <= 9; what++) {
            run.due(due[what], "count", what);
        }
        onlyUpTo(run, 9, "count");
        run.make("abort", 0).due(1, "count", 7).due(1, "resend", 1, 0).due(2, "count", 8);
    }

    private void ofGroup() {
        Run run = run("promise 44");
        run.noPlace("ofGroup", 0, 0).make("topic", 3, 1, 0).make("producer").make("group", 1);
        run.due(0, "ofGroup", 0, 2).make("join", 0).due(0, "ofGroup", 0, 2).make("beat", 0, 0).due(1, "ofGroup", 0, 2);
        run.make("join", 0).make("send", 0, 0, 0, 1).make("read", 0, 0).make("retry", 0, 0, 0);
        int[] due = {2, 3, 0, 1, 0, 1};
        for (int what = 0; what <= 5; what++) {
            run.due(due[what], "ofGroup", 0, what);
        }
        onlyUpTo(run, 5, "ofGroup", 0);
        noneOf(run, new int[] {MIN, -1, 1, 3, MAX}, "ofGroup", 0, 0, 0);
        run.make("leave", 0, 0).due(2, "ofGroup", 0, 1).due(0, "ofGroup", 0, 5).due(0, "ofGroup", 0, 2).make("beat", 0, 1);
        run.due(1, "ofGroup", 0, 2).make("leave", 0, 1).due(0, "ofGroup", 0, 2).due(0, "ofGroup", 0, 1);
    }

    private void audit() {
        Run run = run("promise 45");
        onlyUpTo(run, 6, "audit");
        run.make("topic", 2, 3, 0).make("producer").make("group", 1).make("join", 0).make("beat", 0, 0);
        run.times(4, "send", 0, 0, 0, 1).make("fetch", 1).make("fetch", 2).make("begin", 0).make("send", 0, 0, 0, 1);
        run.times(3, "read", 0, 0).make("retry", 0, 0, 1).make("done", 0, 0, 0).make("commitOffsets", 0, 0).make("fail", 0);
        for (int part = 0; part <= 6; part++) {
            run.due(1, "audit", part);
        }
        onlyUpTo(run, 6, "audit");
    }

    private void digest() {
        Run run = run("promise 46");
        run.make("topic", 1, 1, 0).due(digestOf(17, 0, 1, 0, 0, 0, 0, 0), "digest").make("producer").make("tick", 1);
        run.make("send", 0, 0, 5, 6).make("group", 1);
        int taken = digestOf(17, 1, 0, 0, 1);
        taken = digestOf(taken, 0, 1, 1, 1, 0, 1, 1);
        int[] group = {0, 0, 0, 0};
        run.due(digestOf(digestOf(taken, group), NONE, NONE, 0, NONE, 1), "digest");
        run.make("join", 0).make("beat", 0, 0).make("read", 0, 0).make("done", 0, 0, 0).make("commitOffsets", 0, 0);
        run.due(digestOf(digestOf(taken, 1, 1, 0, 0), 0, 0, 1, 1, 0), "digest");
        run.make("sendLater", 0, 0, 1, 1, 9);
        taken = digestOf(digestOf(17, 1, 0, 0, 1), 0, 0, NONE, NONE);
        taken = digestOf(taken, 0, 1, 1, 1, 0, 1, 1);
        run.due(digestOf(digestOf(taken, 1, 1, 0, 0), 0, 0, 1, 1, 0), "digest");
    }

    private static int digestOf(int before, int... numbers) {
        int taken = before;
        for (int number : numbers) {
            taken = taken * 31 + number;
        }
        return taken;
    }
}
