/** Promises 10 to 19: producers, sends, delayed messages, transactions. */
public final class ProducersTest {
    private static final int MIN = Integer.MIN_VALUE;
    private static final int MAX = Integer.MAX_VALUE;
    private static final int NONE = -1;
    private static final int[] NO_NUMBERS = {MIN, -1, 1, MAX};
    private static final int[] NO_VALUES = {MIN, -2, 1000, MAX};
    private final Check check = new Check();

    public static void main(String[] args) {
        ProducersTest test = new ProducersTest();
        test.producer();
        test.quota();
        test.send();
        test.sendIsRefused();
        test.tooManyMessages();
        test.sendSome();
        test.sendSomeEndsAhead();
        test.sendLater();
        test.resend();
        test.resendAtTheEnd();
        test.begin();
        test.attach();
        test.commit();
        test.commitIsRefused();
        test.commitOfPlaces();
        test.abort();
        test.check.end();
    }

    private Run run(String about) {
        return new Run(check, about);
    }

    private void producer() {
        Run run = run("promise 10");
        run.due(0, "producer").due(1, "producer").due(2, "producer").due(3, "producer").state("producer");
        run.due(4, "count", 2);
    }

    private void quota() {
        Run run = run("promise 11");
        run.make("topic", 1, 1, 0).make("producer").due(10, "quota", 0, 0).due(0, "quota", 0, 20).due(20, "quota", 0, 3);
        for (int wrong : NO_NUMBERS) {
            run.noPlace("quota", wrong, 1).noPlace("quota", wrong, -1);
        }
        for (int wrong : new int[] {MIN, -1, 21, MAX}) {
            run.bad("quota", 0, wrong);
        }
        run.times(3, "send", 0, 0, 1, 1).state("send", 0, 0, 1, 1).due(3, "quota", 0, 2).state("send", 0, 0, 1, 1);
        run.due(2, "quota", 0, 4).make("send", 0, 0, 1, 1).state("send", 0, 0, 1, 1).make("tick", 1);
        run.times(4, "send", 0, 0, 1, 1).due(4, "quota", 0, 0).make("tick", 1).state("send", 0, 0, 1, 1);
    }

    private void send() {
        Run run = run("promise 12");
        run.make("topic", 3, 1, 0).make("producer").make("tick", 2);
        run.due(0, "send", 0, 0, MIN, 0).due(1, "send", 0, 0, -1, 999).due(2, "send", 0, 0, MAX, NONE);
        run.due(3, "send", 0, 0, -3, 5).due(4, "send", 0, 0, 4, 6);
        int[] partition = {Math.floorMod(MIN, 3), 2, Math.floorMod(MAX, 3), 0, 1};
        int[] key = {MIN, -1, MAX, -3, 4};
        int[] value = {0, 999, NONE, 5, 6};
        for (int m = 0; m < 5; m++) {
            run.due(1, "message", m, 0).due(0, "message", m, 1).due(0, "message", m, 2).due(partition[m], "message", m, 3);
            run.due(key[m], "message", m, 5).due(value[m], "message", m, 6).due(2, "message", m, 7);
        }
        run.due(2, "message", 4, 4).due(5, "count", 4).due(3, "partition", 1, 6);
        run.make("begin", 0).due(5, "send", 0, 0, 0, 1).due(1, "message", 5, 1).due(1, "partition", 0, 4);
    }

    private void sendIsRefused() {
        Run run = run("promise 12, refused");
        run.make("topic", 1, 2, 0).make("producer").make("topic", 1, 1, 0);
        for (int wrong : new int[] {MIN, -1, 2, MAX}) {
            run.noPlace("send", 0, wrong, 1, 1).noPlace("send", 0, wrong, 1, -2).noPlace("send", wrong, 0, 1, 1);
        }
        for (int wrong : NO_VALUES) {
            run.bad("send", 0, 0, 1, wrong);
        }
        run.make("quota", 0, 0).state("send", 0, 0, 1, 1).bad("send", 0, 0, 1, -2).noPlace("send", 0, 2, 1, -2);
        run.make("quota", 0, 10).make("send", 0, 0, 1, 1).due(1, "fail", 0).state("send", 0, 0, 1, 1);
        run.make("send", 0, 1, 1, 1).make("producer").make("send", 1, 0, 1, 1).due(1, "resend", 0, 0);
        run.make("send", 0, 0, 1, 1).make("fail", 1).state("send", 0, 0, 1, 1).state("send", 0, 1, 1, 1);

        Run broken = run("promise 12, a broken transaction");
        broken.make("topic", 1, 2, 0).make("topic", 1, 3, 0).make("producer").make("begin", 0).make("send", 0, 0, 1, 1);
        broken.due(1, "fail", 0).state("send", 0, 0, 1, 1).state("send", 0, 1, 1, 1).due(0, "sendSome", 0, 1, 3, 3);
        broken.due(1, "sendLater", 0, 1, 1, 1, 1).due(1, "abort", 0).due(2, "send", 0, 0, 1, 1).due(0, "message", 2, 1);

        Run full = run("promise 12, a full log");
        full.make("topic", 2, 1, 0).make("producer").make("quota", 0, 20);
        for (int i = 0; i < 3; i++) {
            full.times(20, "send", 0, 0, 2, 1).make("tick", 1);
        }
        full.due(59, "message", 59, 4).state("send", 0, 0, 2, 1).make("send", 0, 0, 1, 1).due(60, "partition", 0, 6);
    }

    private void tooManyMessages() {
        Run run = run("promises 12 to 14, 150 messages");
        run.make("topic", 3, 1, 0).make("producer").make("producer").make("quota", 0, 20);
        run.times(30, "sendLater", 1, 0, 2, 1, 50);
        for (int i = 0; i < 5; i++) {
            run.times(20, "send", 0, 0, i, 1).make("tick", 1);
        }
        run.times(19, "send", 0, 0, 0, 1).due(149, "count", 4).due(1, "sendSome", 0, 0, 5, 1).due(150, "count", 4);
        run.state("send", 0, 0, 2, 1).state("sendLater", 0, 0, 2, 1, 1).due(0, "sendSome", 0, 0, 5, 1);
        run.bad("sendLater", 0, 0, 2, 1, 0).bad("send", 0, 0, 2, -2).noPlace("message", 150, 0).due(1, "audit", 6);
        run.make("tick", 30).make("tick", 15).due(0, "count", 9);
    }

    private void sendSome() {
        Run run = run("promise 13");
        run.make("topic", 3, 1, 0).make("producer");
        for (int wrong : NO_NUMBERS) {
            run.noPlace("sendSome", 0, wrong, 1, 1).noPlace("sendSome", wrong, 0, 0, 1);
        }
        for (int wrong : new int[] {MIN, -1, 0, 13, MAX}) {
            run.bad("sendSome", 0, 0, wrong, 1);
        }
        int[] seeds = {0, 1, -1, MIN, MAX, 987654321};
        int first = 0;
        for (int seed : seeds) {
            run.make("tick", 1).due(9, "sendSome", 0, 0, 9, seed);
            int x = seed;
            for (int m = first; m < first + 9; m++) {
                x = x * 1103515245 + 12345;
                int key = (x >>> 16) % 5;
                x = x * 1103515245 + 12345;
                run.due(key, "message", m, 5).due((x >>> 16) % 100, "message", m, 6).due(key % 3, "message", m, 3);
            }
            first += 9;
        }
        run.make("quota", 0, 20).make("begin", 0).make("tick", 1).due(12, "sendSome", 0, 0, 12, 5);
        run.due(1, "message", first, 1).due(8, "sendSome", 0, 0, 12, 5).due(0, "sendSome", 0, 0, 12, 5);
    }

    /** Keys of partition 0, which has no leader, are even. */
    private void sendSomeEndsAhead() {
        Run run = run("promise 13, it ends ahead of the first that is refused");
        run.make("topic", 2, 1, 0).make("producer").make("fail", 0);
        int x = 50;
        int odd = -1;
        for (int key = 1; key % 2 == 1; odd++) {
            x = x * 1103515245 + 12345;
            key = (x >>> 16) % 5;
            x = x * 1103515245 + 12345;
        }
        check.same("odd keys at first", 4, odd);
        run.due(4, "sendSome", 0, 0, 12, 50).due(0, "partition", 0, 7).due(4, "partition", 1, 7);
    }

    private void sendLater() {
        Run run = run("promise 14");
        run.make("topic", 2, 1, 0).make("producer").make("quota", 0, 0).make("begin", 0).make("fail", 0).make("fail", 1);
        for (int wrong : NO_NUMBERS) {
            run.noPlace("sendLater", 0, wrong, 1, 1, 1).noPlace("sendLater", wrong, 0, 1, 1, 1);
            run.noPlace("sendLater", wrong, 0, 1, -2, 0);
        }
        for (int wrong : NO_VALUES) {
            run.bad("sendLater", 0, 0, 1, wrong, 1);
        }
        for (int wrong : new int[] {MIN, -1, 0, 51, MAX}) {
            run.bad("sendLater", 0, 0, 1, 1, wrong);
        }
        run.due(0, "sendLater", 0, 0, -5, NONE, 1).due(1, "sendLater", 0, 0, 4, 999, 50).due(2, "count", 9);
        run.due(0, "message", 0, 0).due(0, "message", 0, 1).due(1, "message", 0, 3).due(NONE, "message", 0, 4);
        run.due(NONE, "message", 0, 7).due(0, "message", 0, 8).due(-5, "message", 0, 5).due(NONE, "message", 0, 6);
        run.make("restore", 0).make("tick", 3).due(0, "message", 0, 0).make("restore", 1).make("tick", 1);
        run.due(1, "message", 0, 0).due(4, "message", 0, 7).due(0, "message", 0, 4).due(0, "commit", 0);
        run.make("tick", 30).make("tick", 15).due(0, "message", 1, 0).make("tick", 1).due(1, "message", 1, 0);
        run.due(50, "message", 1, 7).due(0, "quota", 0, 1).make("sendLater", 0, 0, 4, 1, 1).due(0, "message", 2, 0);
    }

    private void resend() {
        Run run = run("promise 15");
        run.make("topic", 2, 2, 0).make("producer").make("producer").make("speed", 0);
        for (int wrong : new int[] {MIN, -1, 2, MAX}) {
            run.noPlace("resend", wrong, 0).noPlace("resend", 0, wrong);
        }
        run.due(0, "resend", 0, 0).make("send", 0, 0, 0, 1).make("send", 1, 0, 0, 2).make("send", 0, 0, 2, 3);
        run.make("send", 0, 0, 1, 9).make("tick", 2).due(3, "fail", 0).due(0, "resend", 0, 1).due(3, "count", 8);
        run.state("send", 0, 0, 2, 1).state("send", 1, 0, 4, 1).due(4, "send", 0, 0, 1, 1);
        run.due(0, "message", 0, 7).due(2, "resend", 0, 0).due(2, "message", 0, 7).due(0, "message", 0, 4);
        run.due(1, "message", 2, 4).due(2, "message", 1, 0).due(1, "resend", 1, 0).due(2, "message", 1, 4);
        run.due(0, "resend", 0, 0).due(0, "count", 8).make("fail", 1).state("resend", 0, 0).state("resend", 1, 0);
        run.due(2, "resend", 0, 1).due(1, "audit", 6);

        Run quota = run("promise 15, the quota and delayed messages");
        quota.make("topic", 1, 2, 0).make("producer").make("speed", 0).make("sendLater", 0, 0, 1, 1, 1).make("tick", 1);
        quota.make("quota", 0, 1).make("send", 0, 0, 1, 2).due(2, "fail", 0).due(2, "resend", 0, 0);
        quota.due(0, "message", 0, 4).make("tick", 1).make("send", 0, 0, 1, 2).state("send", 0, 0, 1, 2);
    }

    private void resendAtTheEnd() {
        for (int more = 0; more <= 1; more++) {
            Run run = run("promise 15, an end of " + (60 + more));
            run.make("topic", 1, 2, 0).make("producer").make("producer").make("speed", 0).make("quota", 1, 20);
            run.times(10, "send", 0, 0, 1, 1).due(10, "fail", 0).times(20, "send", 1, 0, 1, 1).make("tick", 1);
            run.times(20, "send", 1, 0, 1, 1).make("tick", 1).times(10 + more, "send", 1, 0, 1, 1);
            if (more == 0) {
                run.due(10, "resend", 0, 0).due(60, "partition", 0, 6).due(59, "message", 9, 4);
            } else {
                run.state("resend", 0, 0).due(0, "resend", 1, 0);
            }
        }
    }

    private void begin() {
        Run run = run("promise 16");
        run.make("topic", 1, 2, 0).make("producer").make("producer");
        for (int wrong : new int[] {MIN, -1, 2, MAX}) {
            run.noPlace("begin", wrong).noPlace("commit", wrong).noPlace("abort", wrong);
        }
        run.due(0, "begin", 0).state("begin", 0).due(1, "begin", 1).due(2, "count", 7).due(0, "commit", 0);
        run.due(2, "begin", 0).due(0, "abort", 0).due(3, "begin", 0).make("send", 0, 0, 1, 1).due(1, "fail", 0);
        run.state("begin", 0).due(1, "abort", 0).due(4, "begin", 0).due(2, "count", 7);
    }

    private void attach() {
        Run run = run("promise 17");
        run.make("topic", 2, 1, 0).make("producer").make("group", 1).make("join", 0).make("join", 0).make("leave", 0, 0);
        for (int wrong : NO_NUMBERS) {
            run.noPlace("attach", wrong, 0, 1).noPlace("attach", 0, wrong, 1);
        }
        for (int wrong : new int[] {MIN, -1, 0, 2, 11, 12, MAX}) {
            run.noPlace("attach", 0, 0, wrong);
        }
        run.state("attach", 0, 0, 1).make("begin", 0).due(0, "attach", 0, 0, 1).make("beat", 0, 1).due(2, "attach", 0, 0, 1);
        run.make("join", 0).state("commit", 0).make("beat", 0, 1).due(1, "attach", 0, 0, 1).due(0, "attach", 0, 0, 2);
        run.due(0, "commit", 0).state("attach", 0, 0, 1).make("begin", 0).due(1, "attach", 0, 0, 1).due(0, "abort", 0);
        run.make("begin", 0).make("join", 0).due(0, "commit", 0);

        Run broken = run("promise 17, a broken transaction");
        broken.make("topic", 1, 2, 0).make("producer").make("group", 1).make("join", 0).make("begin", 0);
        broken.make("send", 0, 0, 1, 1).make("fail", 0).state("attach", 0, 0, 0);
    }

    private void commit() {
        Run run = run("promise 18");
        run.make("topic", 2, 2, 0).make("producer").state("commit", 0).make("begin", 0).make("send", 0, 0, 0, 1);
        run.make("send", 0, 0, 1, 2).make("sendLater", 0, 0, 1, 3, 1).state("commit", 0).due(1, "fetch", 1);
        run.due(1, "partition", 0, 3).due(0, "partition", 0, 4).state("commit", 0).due(1, "fetch", 2);
        run.due(0, "message", 0, 8).due(2, "commit", 0).due(2, "message", 0, 1).due(2, "message", 1, 1);
        run.due(0, "message", 2, 1).due(1, "message", 0, 8).due(1, "partition", 0, 4).state("commit", 0);
        run.due(0, "count", 7).make("send", 0, 0, 0, 4).due(0, "message", 3, 1);

        Run last = run("promise 18, each message must be below");
        last.make("topic", 2, 2, 0).make("producer").make("begin", 0).make("send", 0, 0, 0, 1).make("send", 0, 0, 1, 2);
        last.due(1, "fetch", 2).state("commit", 0).due(1, "fetch", 1).due(2, "commit", 0);

        Run open = run("promise 18, the stable offset");
        open.make("topic", 1, 1, 0).make("producer").make("producer").make("begin", 0).make("send", 1, 0, 1, 1);
        open.make("send", 0, 0, 1, 2).make("send", 1, 0, 1, 3).due(1, "partition", 0, 4).due(1, "value", 0, 1);
        open.due(0, "message", 2, 8).due(1, "commit", 0).due(3, "partition", 0, 4).due(3, "value", 0, 1);
        open.due(1, "message", 2, 8).due(1, "audit", 6);
    }

    private void commitIsRefused() {
        Run broken = run("promise 18, a broken transaction");
        broken.make("topic", 1, 2, 0).make("topic", 1, 2, 0).make("producer").make("begin", 0).make("send", 0, 0, 1, 1);
        broken.make("send", 0, 1, 1, 1).due(1, "fail", 0).state("commit", 0).due(3, "message", 1, 1).due(2, "abort", 0);
        broken.due(0, "partition", 1, 4).due(0, "message", 1, 8).state("commit", 0);

        Run owner = run("promise 18, the generation and the owner");
        owner.make("topic", 2, 1, 0).make("topic", 1, 1, 0).make("producer").make("group", 1).make("join", 0);
        owner.make("beat", 0, 0).make("begin", 0).due(2, "attach", 0, 0, 0).make("join", 0).state("commit", 0);
        owner.due(2, "attach", 0, 0, 0).make("beat", 0, 0).state("commit", 0).due(1, "attach", 0, 0, 0).due(0, "commit", 0);
        owner.make("begin", 0).due(1, "attach", 0, 0, 0).make("leave", 0, 0).state("commit", 0).due(0, "abort", 0);
    }

    private void commitOfPlaces() {
        Run run = run("promise 18, attached places");
        run.make("topic", 2, 1, 0).make("producer").make("producer").make("group", 1).make("join", 0).make("beat", 0, 0);
        run.make("credits", 0, 0, 9).times(3, "send", 0, 0, 0, 1).times(2, "send", 0, 0, 1, 1).make("begin", 1);
        run.make("begin", 0).times(5, "read", 0, 0).make("done", 0, 0, 0).due(2, "attach", 1, 0, 0);
        run.make("done", 0, 0, 1).make("done", 0, 0, 3).due(2, "attach", 0, 0, 0).due(0, "share", 0, 0, 2);
        run.due(0, "commit", 0).due(2, "share", 0, 0, 2).due(1, "share", 0, 1, 2).due(0, "commit", 1);
        run.due(2, "share", 0, 0, 2).due(1, "share", 0, 1, 2).make("done", 0, 0, 2).make("begin", 0);
        run.due(2, "attach", 0, 0, 0).due(0, "abort", 0).due(2, "share", 0, 0, 2).due(1, "audit", 6);
    }

    private void abort() {
        Run run = run("promise 19");
        run.make("topic", 1, 2, 0).make("producer").state("abort", 0).make("begin", 0).times(2, "send", 0, 0, 1, 1);
        run.make("sendLater", 0, 0, 1, 1, 1).due(2, "abort", 0).state("abort", 0).due(3, "message", 0, 1);
        run.due(3, "message", 1, 1).due(0, "message", 2, 1).make("fetch", 1).due(2, "partition", 0, 4);
        run.due(0, "message", 0, 8).due(NONE, "value", 0, 1).due(1, "message", 0, 0).make("begin", 0).due(0, "abort", 0);
        Run cut = run("promise 19, ABORTED messages that are cut");
        cut.make("topic", 1, 2, 0).make("producer").make("begin", 0).make("send", 0, 0, 1, 1).due(1, "abort", 0);
        cut.due(1, "fail", 0).due(1, "count", 8).due(1, "send", 0, 0, 1, 1).due(0, "resend", 0, 0).make("begin", 0);
        cut.make("send", 0, 0, 1, 1).due(1, "commit", 0);
    }
}
