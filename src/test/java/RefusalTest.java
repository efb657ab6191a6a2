import java.util.ArrayList;
import java.util.List;

/**
 * "A call that is refused changes nothing", and what is refused while a search goes on. Of two objects
 * with the same calls one gets a refused call more: nothing that is seen of them may differ from then on.
 */
public final class RefusalTest {
    private static final Check CHECK = new Check("RefusalTest");
    private static final long[] FEEDS = {10, 11, 12, 13, 14};
    private static final long[] OTHER_GRAMS = {0, -1, 1000001, (1L << 32) + 10, Long.MIN_VALUE, Long.MAX_VALUE};

    /** Some calls, and what is refused after them, in whatever object they are made. */
    private static final class Stage {
        final String name;
        final List<Call> calls = new ArrayList<>();
        final List<Call> refused = new ArrayList<>();

        Stage(String name, Call... calls) {
            this.name = name;
            this.calls.addAll(List.of(calls));
        }

        Stage refuses(List<Call> more) {
            refused.addAll(more);
            return this;
        }

        Stage refuses(Call... more) {
            return refuses(List.of(more));
        }
    }

    public static void main(String[] args) {
        CHECK.sentence("A call that is refused changes nothing: in searches of two machines");
        dueSame(twoMachines());
        CHECK.sentence("A call that is refused changes nothing: with five machines");
        dueSame(fiveMachines());
        CHECK.sentence("A call that is refused changes nothing: with 64 vectors");
        dueSame(sixtyFourVectors());
        refusedWhileItGoesOn("machine()", Call.machine(1));
        refusedWhileItGoesOn("worth()", Call.worth(0, 0, 4));
        refusedWhileItGoesOn("purity()", Call.purity(0, 0, 0, 1));
        refusedWhileItGoesOn("most()", Call.most(0, 1));
        refusedWhileItGoesOn("most() of none", Call.most(0, -1));
        refusedWhileItGoesOn("feed() of the same", Call.feed(10));
        refusedWhileItGoesOn("feed() of another", Call.feed(11));
        refusedWhileItGoesOn("take()", Call.take());
        answeredWhileItGoesOn();
        CHECK.finish();
    }

    private static void dueSame(List<Stage> story) {
        for (int reached = 0; reached < story.size(); reached++) {
            for (Call refused : story.get(reached).refused) {
                dueSameWith(story, reached, refused);
            }
        }
    }

    private static void dueSameWith(List<Stage> story, int reached, Call refused) {
        SettingSearch x = new SettingSearch();
        SettingSearch y = new SettingSearch();
        String when = "after " + refused.name + " at " + story.get(reached).name + ", ";
        dueSameCalls(x, y, story.subList(0, reached + 1), when);
        CHECK.due(refused.name + " at " + story.get(reached).name, refused.on(x), refused.refusal);
        CHECK.due(when + "the object", Look.at(x, FEEDS), Look.at(y, FEEDS));
        dueSameCalls(x, y, story.subList(reached + 1, story.size()), when);
        CHECK.due(when + "the object at the end", Look.at(x, FEEDS), Look.at(y, FEEDS));
    }

    private static void dueSameCalls(SettingSearch x, SettingSearch y, List<Stage> stages, String when) {
        for (Stage stage : stages) {
            for (Call call : stage.calls) {
                CHECK.due(when + stage.name + ": " + call.name, call.on(x), call.on(y));
                CHECK.due(when + stage.name + ": sum after " + call.name, x.sum(), y.sum());
            }
        }
    }

    private static List<Call> always() {
        List<Call> calls = new ArrayList<>();
        for (int settings : new int[] {0, 5, -1, 1 << 30}) {
            calls.add(Call.machine(settings));
        }
        for (int[] place : Runs.WRONG_PLACES) {
            calls.add(Call.worth(place[0], place[1], 9));
            calls.add(Call.purity(place[0], place[1], 1, 1));
            calls.add(Call.answer(place[0], place[1], 1));
        }
        for (int cents : new int[] {-1001, 1001}) {
            calls.add(Call.worth(0, 0, cents));
        }
        for (int[] shares : new int[][] {{-1, 1}, {1001, 1}, {1, 0}, {1, 1001}}) {
            calls.add(Call.purity(0, 1, shares[0], shares[1]));
        }
        for (int machine : Runs.WRONG_MACHINES) {
            calls.add(Call.most(machine, 0));
            calls.add(Call.load(machine, 9));
        }
        for (int v : new int[] {-2, 1000001}) {
            calls.add(Call.most(0, v));
        }
        for (int v : new int[] {-1, 1000001}) {
            calls.add(Call.load(0, v));
        }
        for (long grams : OTHER_GRAMS) {
            calls.add(Call.feed(grams));
        }
        for (long grams : new long[] {-1, 1000001, (1L << 32) + 1, Long.MIN_VALUE, Long.MAX_VALUE}) {
            calls.add(Call.answer(0, 0, grams));
            calls.add(Call.answer(2, 2, grams));
        }
        return calls;
    }

    private static List<Call> whileItGoesOn() {
        return List.of(Call.machine(1), Call.machine(2), Call.worth(0, 0, 1), Call.worth(2, 2, 1000),
                Call.purity(0, 1, 1, 1), Call.most(0, 0), Call.most(0, -1), Call.most(1, 0),
                Call.feed(10), Call.feed(11), Call.feed(14), Call.take());
    }

    private static List<Call> whenNoneIsAsked() {
        return List.of(Call.answer(0, 0, 0), Call.answer(0, 0, 1), Call.answer(1, 1, 1), Call.load(0, 0),
                Call.load(0, 9), Call.load(1, 9));
    }

    /** Nothing goes on, so that nothing is asked for either. */
    private static List<Call> whenNoneGoesOn() {
        List<Call> calls = new ArrayList<>(whenNoneIsAsked());
        calls.add(Call.next());
        return calls;
    }

    private static List<Stage> twoMachines() {
        List<Stage> story = new ArrayList<>();
        story.add(new Stage("the start").refuses(always()).refuses(whenNoneGoesOn())
                .refuses(Call.feed(10), Call.most(0, 0), Call.most(0, -1), Call.take()));
        story.add(new Stage("the setting up", Call.machine(2), Call.machine(3), Call.worth(0, 0, 10),
                Call.worth(1, 1, -20), Call.purity(0, 0, 1, 2), Call.most(0, 5))
                .refuses(always()).refuses(whenNoneGoesOn()).refuses(Call.most(2, 0), Call.take()));
        story.add(new Stage("the beginning", Call.feed(10)).refuses(always()).refuses(whileItGoesOn())
                .refuses(whenNoneIsAsked()));
        story.add(new Stage("the first asked", Call.next()).refuses(always()).refuses(whileItGoesOn())
                .refuses(Call.answer(0, 0, 11), Call.load(2, 1)));
        story.add(new Stage("the first told", Call.answer(0, 0, 4), Call.answer(0, 1, 4), Call.answer(1, 1, 1),
                Call.load(0, 3), Call.load(1, 8)).refuses(always()).refuses(whileItGoesOn())
                .refuses(Call.answer(0, 0, 6), Call.answer(0, 1, 6), Call.answer(1, 1, 3), Call.answer(2, 2, 2)));
        story.add(new Stage("the second told", Call.next(), Call.answer(0, 0, 9), Call.load(0, 6))
                .refuses(always()).refuses(whileItGoesOn()).refuses(Call.answer(1, 1, 2)));
        story.add(new Stage("the last asked", Call.next(), Call.answer(0, 0, 6), Call.next(), Call.next(),
                Call.answer(0, 0, 6), Call.answer(0, 1, 4), Call.next())
                .refuses(always()).refuses(whileItGoesOn()));
        story.add(new Stage("the last told", Call.answer(0, 0, 3)).refuses(always()).refuses(whileItGoesOn())
                .refuses(Call.answer(0, 1, 8)));
        story.add(new Stage("the end", Call.next()).refuses(always()).refuses(whenNoneGoesOn()));
        story.add(new Stage("the take", Call.take()).refuses(always()).refuses(whenNoneGoesOn()));
        story.addAll(fourFeeds());
        return story;
    }

    /** Goes on after the take; at its end all that was told comes to bear: cents, rules, settings, answers. */
    private static List<Stage> fourFeeds() {
        List<Stage> story = new ArrayList<>();
        Stage noneStands = new Stage("the end at which none stands", Call.most(0, 2), Call.feed(11));
        for (int vector = 0; vector < 6; vector++) {
            noneStands.calls.add(Call.next());
            noneStands.calls.add(Call.answer(0, vector % 3, 5));
            noneStands.calls.add(Call.load(0, 3));
        }
        noneStands.calls.add(Call.next());
        story.add(noneStands.refuses(always()).refuses(whenNoneGoesOn()).refuses(Call.take()));
        story.add(new Stage("the fourth feed", Call.feed(12), Call.next(), Call.answer(0, 0, 12), Call.next(),
                Call.feed(13), Call.next(), Call.answer(0, 0, 2), Call.next(), Call.answer(0, 0, 13), Call.next())
                .refuses(always()).refuses(whenNoneGoesOn())
                .refuses(Call.feed(14), Call.feed(1), Call.feed(1000000)));
        story.add(new Stage("the fourth purity", Call.purity(0, 0, 1, 3), Call.purity(1, 2, 0, 1),
                Call.purity(2, 1, 1, 1)).refuses(always()).refuses(whenNoneGoesOn())
                .refuses(Call.purity(0, 0, 1, 1), Call.purity(0, 1, 1000, 1)));
        story.add(new Stage("the searches after it", Call.feed(10), Call.next(), Call.take(), Call.feed(11),
                Call.next(), Call.most(0, 3), Call.feed(11), Call.next(), Call.worth(0, 0, 7), Call.feed(12),
                Call.next(), Call.answer(0, 0, 7), Call.next(), Call.next(), Call.next(), Call.next(), Call.next()));
        story.add(new Stage("one more machine", Call.machine(4), Call.feed(14), Call.next(), Call.load(2, 5),
                Call.answer(0, 0, 1), Call.next()));
        return story;
    }

    private static List<Stage> fiveMachines() {
        List<Stage> story = new ArrayList<>();
        List<Call> sixth = List.of(Call.machine(1), Call.machine(2), Call.machine(4));
        story.add(new Stage("the fifth machine", Call.machine(2), Call.machine(1), Call.machine(2),
                Call.machine(1), Call.machine(1)).refuses(always()).refuses(sixth).refuses(Call.take()));
        story.add(new Stage("the end", Call.worth(0, 0, 1), Call.most(4, 5), Call.feed(10), Call.next(),
                Call.answer(0, 0, 3), Call.load(4, 5), Call.next(), Call.answer(0, 0, 4), Call.load(4, 6),
                Call.next(), Call.answer(0, 0, 10), Call.load(4, 1), Call.next())
                .refuses(always()).refuses(sixth).refuses(whenNoneGoesOn()));
        story.add(new Stage("the take", Call.take()).refuses(sixth));
        story.add(new Stage("the search after it", Call.feed(11), Call.next(), Call.next(), Call.next())
                .refuses(always()).refuses(sixth).refuses(whileItGoesOn()));
        return story;
    }

    private static List<Stage> sixtyFourVectors() {
        List<Stage> story = new ArrayList<>();
        List<Call> tooMany = List.of(Call.machine(2), Call.machine(3), Call.machine(4));
        story.add(new Stage("the third machine", Call.machine(4), Call.machine(4), Call.machine(4))
                .refuses(tooMany));
        story.add(new Stage("the end", Call.worth(0, 0, 1), Call.feed(10), Call.next(), Call.answer(0, 0, 3),
                Call.next(), Call.answer(0, 0, 10), Call.next()).refuses(tooMany).refuses(whenNoneGoesOn()));
        story.add(new Stage("the take", Call.take()).refuses(tooMany));
        story.add(new Stage("the fourth machine", Call.machine(1), Call.feed(10), Call.next(),
                Call.answer(0, 0, 10), Call.next()).refuses(tooMany));
        return story;
    }

    /** A search of two vectors after another one, which has a best one from its second next() on. */
    private static void refusedWhileItGoesOn(String name, Call call) {
        CHECK.sentence("While a search goes on " + name + " is refused");
        SettingSearch x = Runs.machines(2);
        x.worth(0, 0, 3);
        CHECK.due("feed", x.feed(10), true);
        dueRefused(call, x, "from feed() on");
        x.next();
        dueRefused(call, x, "when it asks");
        x.answer(0, 0, 4);
        dueRefused(call, x, "when it was told");
        x.next();
        dueRefused(call, x, "when there is a best one");
        x.answer(0, 0, 5);
        dueRefused(call, x, "when all was told");
        CHECK.due("end", x.next(), 0);
        CHECK.due("sum", x.sum(), 15);
        CHECK.due(call.name + " after the end", call.on(x) != call.refusal, true);
        SettingSearch y = Runs.machines(2);
        y.worth(0, 0, 3);
        Runs.endAt(y, 10, 0);
        CHECK.due(call.name + " after an end at the bound", call.on(y) != call.refusal, true);
        SettingSearch z = Runs.machines(2);
        Runs.searchAll(z, 10, 1);
        z.feed(10);
        dueRefused(call, z, "when all is kept");
        CHECK.due("end of what is kept", z.next(), 0);
        CHECK.due(call.name + " after the end of what is kept", call.on(z) != call.refusal, true);
    }

    private static void dueRefused(Call call, SettingSearch x, String when) {
        CHECK.due(call.name + " " + when, call.on(x), call.refusal);
    }

    private static void answeredWhileItGoesOn() {
        CHECK.sentence("While a search goes on .. are refused: no other call");
        SettingSearch x = Runs.twoByThree();
        x.feed(10);
        x.next();
        CHECK.due("answer", x.answer(0, 0, 4), true);
        CHECK.due("load", x.load(1, 4), true);
        CHECK.due("next", x.next(), 1);
        CHECK.due("asked", x.asked(1), 1);
        CHECK.due("best", x.best(1), 0);
        CHECK.due("sum", x.sum(), 40);
        CHECK.due("bound", x.bound(), 100);
        CHECK.due("changes", x.changes(), 0);
        CHECK.due("kept", x.kept(10), 1);
    }
}
