import java.util.ArrayList;
import java.util.Arrays;
import java.util.List;

/** All that can be asked of a broker now, with a little outside of what there is, and what the Model answers. */
final class Questions {
    private final Model model;
    private final Caller due;
    private final List<DrawnRun.Due> asked = new ArrayList<>();

    Questions(Model model, Caller due) {
        this.model = model;
        this.due = due;
    }

    List<DrawnRun.Due> all() {
        askEach("count", 9);
        for (int part = 0; part <= 6; part++) {
            asked.add(new DrawnRun.Due("audit", new int[] {part}, "1"));
        }
        for (int message = 0; message < model.messages.size(); message++) {
            askEach("message", 8, message);
        }
        for (int p = 0; p < model.partitions.size(); p++) {
            askPartition(p);
        }
        for (int t = 0; t < model.topics.size(); t++) {
            askEach("value", 6, t);
            ask("sum", t, 1, 2, 30);
            ask("sum", t, 2, 0, model.now);
        }
        for (int g = 0; g < model.groups.size(); g++) {
            askGroup(g);
        }
        return asked;
    }

    private void askPartition(int partition) {
        askEach("partition", 7, partition);
        askEach("at", 60, partition);
        askEach("offsetAt", Math.min(model.now, 70), partition);
        for (int r = 0; r <= 3; r++) {
            askEach("replica", 2, partition, r);
        }
    }

    private void askGroup(int group) {
        askEach("ofGroup", 5, group);
        for (int p = 0; p <= model.partitions.size(); p++) {
            askEach("share", 6, group, p);
        }
        for (int member = 0; member < 12; member++) {
            askEach("member", 4, group, member);
            Model.Member present = model.groups.get(group).members.get(member);
            for (int place = 0; present != null && place <= present.hand.size(); place++) {
                askEach("hand", 2, group, member, place);
            }
        }
        for (int place = 0; place <= model.groups.get(group).waiting.size(); place++) {
            askEach("waits", 2, group, place);
        }
        askEach("dead", model.groups.get(group).dead.size(), group);
        askEach("seen", model.messages.size(), group);
    }

    /** Asks with each last number from -1 to one above the greatest that is to be answered. */
    private void askEach(String name, int most, int... before) {
        for (int last = -1; last <= most + 1; last++) {
            int[] numbers = Arrays.copyOf(before, before.length + 1);
            numbers[before.length] = last;
            ask(name, numbers);
        }
    }

    private void ask(String name, int... numbers) {
        asked.add(new DrawnRun.Due(name, numbers, due.call(name, numbers)));
    }
}
