/** Promises 6 to 15: feed, next, asked, answer, load, best, sum, bound, proved, changes. */
public final class SearchTest {
    private static final Check CHECK = new Check("SearchTest");
    private static final long NO_SUM = Long.MIN_VALUE;

    public static void main(String[] args) {
        feedRefuses();
        feedBeginsAnew();
        feedCountsOtherFeeds();
        nextGoesThroughTheOrder();
        nextOrderFromAnotherCurrent();
        nextSkipsKeptAnswers();
        nextEndsAtTheBound();
        nextEndsAtTheBoundOfKeptAnswers();
        nextEndsOnlyWithABest();
        nextTakesWhatWasNotToldAsNought();
        askedOnlyWhenAsked();
        answerReplacesAndRefuses();
        loadReplacesAndRefuses();
        bestIsTheFirstOfEquals();
        bestIsOfThoseThatStand();
        sumMayBeNegative();
        sumStaysAsFound();
        boundFollowsCents();
        provedOnlyWhenEnded();
        changesFollowTheCurrent();
        CHECK.finish();
    }

    private static SettingSearch twoByThree() {
        SettingSearch x = new SettingSearch();
        x.machine(2);
        x.machine(3);
        x.worth(0, 0, 10);
        return x;
    }

    private static void dueAsked(SettingSearch x, String call, int... settings) {
        for (int machine = 0; machine < settings.length; machine++) {
            CHECK.due(call + " asked(" + machine + ")", x.asked(machine), settings[machine]);
        }
    }

    private static void feedRefuses() {
        SettingSearch x = new SettingSearch();
        CHECK.due("6 no machine", x.feed(1), false);
        x.machine(1);
        long[] wrong = {0, -1, 1000001, Long.MIN_VALUE, Long.MAX_VALUE, (1L << 32) + 1};
        for (long grams : wrong) {
            CHECK.due("6 feed(" + grams + ")", x.feed(grams), false);
        }
        CHECK.due("6 nothing began", x.next(), -1);
        CHECK.due("6 no bound", x.bound(), -1);
        CHECK.due("6 feed(1)", x.feed(1), true);
        x.next();
        x.next();
        CHECK.due("6 feed(1000000)", x.feed(1000000), true);
    }

    private static void feedBeginsAnew() {
        SettingSearch x = twoByThree();
        Runs.searchAll(x, 5, 2);
        CHECK.due("6 refused feed", x.feed(0), false);
        CHECK.due("6 sum after a refusal", x.sum(), 20);
        CHECK.due("6 proved after a refusal", x.proved(), true);
        CHECK.due("6 feed", x.feed(5), true);
        CHECK.due("6 no best yet", x.best(0), -1);
        CHECK.due("6 no sum yet", x.sum(), NO_SUM);
        CHECK.due("6 no changes yet", x.changes(), -1);
        CHECK.due("6 not proved yet", x.proved(), false);
        CHECK.due("6 nothing asked yet", x.asked(0), -1);
        CHECK.due("6 kept stay", x.kept(5), 6);
        CHECK.due("6 no room yet", x.room(0), NO_SUM);
    }

    private static void feedCountsOtherFeeds() {
        SettingSearch x = new SettingSearch();
        x.machine(1);
        for (int feed = 10; feed < 14; feed++) {
            CHECK.due("6 feed(" + feed + ")", x.feed(feed), true);
            x.next();
            x.next();
        }
        CHECK.due("6 fifth feed", x.feed(14), false);
        CHECK.due("6 the latest search is still of 13", x.kept(13), 1);
        for (int feed = 10; feed < 14; feed++) {
            CHECK.due("6 again feed(" + feed + ")", x.feed(feed), true);
            CHECK.due("6 its answer is kept", x.next(), 0);
        }
        CHECK.due("6 still a fifth feed", x.feed(14), false);
    }

    private static void nextGoesThroughTheOrder() {
        SettingSearch x = new SettingSearch();
        x.worth(0, 0, 1);
        x.machine(2);
        x.machine(1);
        x.machine(2);
        x.machine(3);
        int[][] order = {{0, 0, 0, 0}, {0, 0, 0, 1}, {0, 0, 0, 2}, {0, 0, 1, 0}, {1, 0, 0, 0},
            {0, 0, 1, 1}, {0, 0, 1, 2}, {1, 0, 0, 1}, {1, 0, 0, 2}, {1, 0, 1, 0},
            {1, 0, 1, 1}, {1, 0, 1, 2}};
        x.feed(1);
        for (int[] vector : order) {
            CHECK.due("7 next", x.next(), 1);
            dueAsked(x, "7", vector);
        }
        CHECK.due("7 end", x.next(), 0);
        CHECK.due("7 after the end", x.next(), -1);
        CHECK.due("7 kept", x.kept(1), 12);
    }

    private static void nextOrderFromAnotherCurrent() {
        SettingSearch x = twoByThree();
        x.feed(4);
        for (int call = 0; call < 5; call++) {
            x.next();
        }
        dueAsked(x, "7 fifth", 1, 1);
        x.answer(0, 0, 4);
        x.next();
        CHECK.due("7 take", x.take(), 2);
        x.feed(3);
        int[][] order = {{1, 1}, {0, 1}, {1, 0}, {1, 2}, {0, 0}, {0, 2}};
        for (int[] vector : order) {
            CHECK.due("7 next", x.next(), 1);
            dueAsked(x, "7 from 1 1", vector);
        }
        CHECK.due("7 end from 1 1", x.next(), 0);
    }

    private static void nextSkipsKeptAnswers() {
        SettingSearch x = twoByThree();
        x.feed(4);
        x.next();
        x.answer(0, 0, 1);
        x.next();
        x.answer(0, 0, 4);
        CHECK.due("7 bound reached", x.next(), 0);
        x.worth(0, 0, 9);
        x.worth(0, 1, 10);
        x.feed(4);
        CHECK.due("7 goes on", x.next(), 1);
        dueAsked(x, "7 behind the kept ones", 0, 2);
        CHECK.due("7 best of the kept ones", x.sum(), 36);
        CHECK.due("7 kept so far", x.kept(4), 2);
        x.next();
        CHECK.due("7 one more kept", x.kept(4), 3);
    }

    private static void nextEndsAtTheBound() {
        SettingSearch x = twoByThree();
        x.feed(7);
        x.next();
        x.answer(0, 0, 7);
        CHECK.due("7 ends at once", x.next(), 0);
        CHECK.due("7 proved", x.proved(), true);
        CHECK.due("7 none asked", x.asked(0), -1);
        CHECK.due("7 one kept", x.kept(7), 1);
        CHECK.due("7 sum", x.sum(), 70);
        SettingSearch y = twoByThree();
        y.most(0, 1);
        y.feed(7);
        y.next();
        y.answer(0, 0, 7);
        y.load(0, 2);
        CHECK.due("7 one that does not stand ends nothing", y.next(), 1);
    }

    private static void nextEndsAtTheBoundOfKeptAnswers() {
        SettingSearch x = twoByThree();
        x.worth(0, 1, 10);
        x.worth(0, 2, 11);
        x.feed(6);
        x.next();
        x.next();
        x.answer(0, 0, 6);
        x.next();
        x.answer(0, 1, 6);
        x.next();
        x.answer(0, 2, 6);
        CHECK.due("7 ends at 1 0", x.next(), 0);
        CHECK.due("7 best there", x.best(0), 1);
        x.worth(0, 2, 0);
        x.feed(6);
        CHECK.due("7 ends without asking", x.next(), 0);
        CHECK.due("7 at the first at the bound", x.best(1), 1);
        CHECK.due("7 not at machine 0", x.best(0), 0);
        CHECK.due("7 sum at the bound", x.sum(), 60);
        CHECK.due("7 no more kept", x.kept(6), 4);
    }

    private static void nextEndsOnlyWithABest() {
        SettingSearch x = new SettingSearch();
        x.machine(2);
        x.most(0, 0);
        x.feed(3);
        x.next();
        x.load(0, 1);
        CHECK.due("7 bound 0, none stands", x.next(), 1);
        x.load(0, 1);
        CHECK.due("7 all gone through", x.next(), 0);
        CHECK.due("7 proved without a best", x.proved(), true);
        CHECK.due("7 no sum", x.sum(), NO_SUM);
        CHECK.due("7 no best", x.best(0), -1);
        CHECK.due("7 no changes", x.changes(), -1);
        CHECK.due("7 nothing to take", x.take(), -1);
    }

    private static void nextTakesWhatWasNotToldAsNought() {
        SettingSearch x = new SettingSearch();
        x.machine(2);
        x.worth(0, 0, 10);
        x.worth(1, 1, -10);
        x.most(0, 3);
        x.feed(5);
        x.next();
        x.answer(0, 0, 1);
        x.answer(1, 1, 4);
        x.load(0, 4);
        x.next();
        CHECK.due("7 nothing of the one before", x.next(), 0);
        CHECK.due("7 sum of an untold answer", x.sum(), 0);
        CHECK.due("7 its best", x.best(0), 1);
        x.machine(1);
        x.feed(5);
        x.next();
        CHECK.due("7 next of a feed once forgotten", x.next(), 1);
        CHECK.due("7 nothing of what was forgotten", x.sum(), 0);
    }

    private static void askedOnlyWhenAsked() {
        SettingSearch x = twoByThree();
        x.feed(1);
        CHECK.due("8 before next", x.asked(0), -1);
        x.next();
        CHECK.due("8 asked(1)", x.asked(1), 0);
        CHECK.due("8 asked(2)", x.asked(2), -1);
        CHECK.due("8 asked(-1)", x.asked(-1), -1);
        CHECK.due("8 asked(MIN)", x.asked(Integer.MIN_VALUE), -1);
        CHECK.due("8 asked(MAX)", x.asked(Integer.MAX_VALUE), -1);
        x.answer(0, 0, 1);
        x.next();
        CHECK.due("8 after the end", x.asked(0), -1);
    }

    private static void answerReplacesAndRefuses() {
        SettingSearch x = twoByThree();
        CHECK.due("9 before a search", x.answer(0, 0, 0), false);
        x.feed(10);
        CHECK.due("9 before next", x.answer(0, 0, 1), false);
        x.next();
        CHECK.due("9 port 3", x.answer(3, 0, 1), false);
        CHECK.due("9 port -1", x.answer(-1, 0, 1), false);
        CHECK.due("9 kind 3", x.answer(0, 3, 1), false);
        CHECK.due("9 kind -1", x.answer(1, -1, 1), false);
        CHECK.due("9 grams -1", x.answer(0, 0, -1), false);
        CHECK.due("9 grams MIN", x.answer(0, 0, Long.MIN_VALUE), false);
        CHECK.due("9 grams MAX", x.answer(0, 0, Long.MAX_VALUE), false);
        CHECK.due("9 grams 2^32", x.answer(0, 0, 1L << 32), false);
        CHECK.due("9 all of the feed", x.answer(0, 0, 10), true);
        CHECK.due("9 none left", x.answer(2, 2, 1), false);
        CHECK.due("9 none needed", x.answer(2, 2, 0), true);
        CHECK.due("9 grams MAX beside others", x.answer(2, 2, Long.MAX_VALUE), false);
        CHECK.due("9 less in its place", x.answer(0, 0, 6), true);
        CHECK.due("9 the rest", x.answer(2, 2, 4), true);
        CHECK.due("9 more than the rest", x.answer(2, 2, 5), false);
        CHECK.due("9 more than the feed in its place", x.answer(0, 0, 7), false);
        x.next();
        CHECK.due("9 refused ones changed nothing", x.sum(), 60);
        x.answer(0, 0, 10);
        x.next();
        CHECK.due("9 after the end", x.answer(0, 0, 1), false);
    }

    private static void loadReplacesAndRefuses() {
        SettingSearch x = twoByThree();
        x.most(0, 5);
        x.most(1, 5);
        CHECK.due("10 before a search", x.load(0, 1), false);
        x.feed(10);
        CHECK.due("10 before next", x.load(0, 1), false);
        x.next();
        x.answer(0, 0, 3);
        CHECK.due("10 load 6", x.load(0, 6), true);
        CHECK.due("10 load 5 in its place", x.load(0, 5), true);
        CHECK.due("10 load of machine 1", x.load(1, 1000000), true);
        CHECK.due("10 load 0 in its place", x.load(1, 0), true);
        CHECK.due("10 load -1", x.load(0, -1), false);
        CHECK.due("10 load 1000001", x.load(0, 1000001), false);
        CHECK.due("10 load MIN", x.load(0, Integer.MIN_VALUE), false);
        CHECK.due("10 machine 2", x.load(2, 6), false);
        CHECK.due("10 machine -1", x.load(-1, 6), false);
        CHECK.due("10 machine MAX", x.load(Integer.MAX_VALUE, 6), false);
        x.next();
        CHECK.due("10 stands", x.sum(), 30);
        x.answer(0, 0, 4);
        x.load(1, 6);
        x.next();
        CHECK.due("10 does not stand", x.sum(), 30);
        x.answer(0, 0, 10);
        x.next();
        CHECK.due("10 after the end", x.load(0, 1), false);
    }

    private static void bestIsTheFirstOfEquals() {
        SettingSearch x = twoByThree();
        long[] grams = {1, 2, 3, 3, 2, 3};
        x.feed(4);
        for (long some : grams) {
            x.next();
            x.answer(0, 0, some);
        }
        CHECK.due("11 best so far", x.best(0), 0);
        CHECK.due("11 best so far, machine 1", x.best(1), 2);
        x.next();
        CHECK.due("11 best(0)", x.best(0), 0);
        CHECK.due("11 best(1)", x.best(1), 2);
        CHECK.due("11 best(2)", x.best(2), -1);
        CHECK.due("11 best(-1)", x.best(-1), -1);
        CHECK.due("11 best(MAX)", x.best(Integer.MAX_VALUE), -1);
        CHECK.due("12 sum", x.sum(), 30);
        x.take();
        x.feed(4);
        x.next();
        CHECK.due("11 the current one is the first now", x.best(1), 2);
    }

    private static void bestIsOfThoseThatStand() {
        SettingSearch x = twoByThree();
        x.purity(0, 0, 1, 2);
        x.most(1, 9);
        x.feed(10);
        x.next();
        x.answer(0, 0, 4);
        x.answer(0, 1, 6);
        x.next();
        CHECK.due("11 not pure", x.best(0), -1);
        x.answer(0, 0, 9);
        x.load(1, 10);
        x.next();
        CHECK.due("11 too much load", x.best(0), -1);
        x.answer(0, 0, 3);
        x.answer(0, 2, 3);
        x.load(1, 9);
        x.next();
        CHECK.due("11 stands", x.best(1), 2);
        CHECK.due("12 its worth", x.sum(), 30);
    }

    private static void sumMayBeNegative() {
        SettingSearch x = new SettingSearch();
        x.machine(2);
        x.worth(2, 0, -1000);
        x.feed(1000000);
        x.next();
        x.answer(2, 0, 1000000);
        CHECK.due("12 goes on", x.next(), 1);
        CHECK.due("12 far below 0", x.sum(), -1000000000L);
        CHECK.due("12 best", x.best(0), 0);
        x.answer(2, 0, 999999);
        x.next();
        CHECK.due("12 a little better", x.sum(), -999999000L);
        CHECK.due("13 never below 0", x.bound(), 0);
        x.worth(2, 0, 1000);
        x.feed(1000000);
        CHECK.due("12 ends at the greatest bound", x.next(), 0);
        CHECK.due("12 far above 0", x.sum(), 1000000000L);
        CHECK.due("13 greatest bound", x.bound(), 1000000000L);
    }

    private static void sumStaysAsFound() {
        SettingSearch x = twoByThree();
        Runs.searchAll(x, 5, 2);
        x.worth(0, 0, 3);
        x.most(0, 0);
        CHECK.due("12 sum as it was found", x.sum(), 20);
        CHECK.due("11 best as it was found", x.best(0), 0);
    }

    private static void boundFollowsCents() {
        SettingSearch x = twoByThree();
        CHECK.due("13 none yet", x.bound(), -1);
        x.feed(5);
        CHECK.due("13 from feed on", x.bound(), 50);
        Runs.searchAll(x, 5, 2);
        x.worth(2, 2, 12);
        CHECK.due("13 by other cents", x.bound(), 60);
        x.worth(2, 2, -12);
        x.worth(0, 0, -1);
        CHECK.due("13 0 at least", x.bound(), 0);
        x.worth(1, 0, 1);
        x.feed(7);
        CHECK.due("13 of the latest search", x.bound(), 7);
    }

    private static void provedOnlyWhenEnded() {
        SettingSearch x = new SettingSearch();
        x.machine(2);
        x.worth(0, 0, 1);
        CHECK.due("14 none", x.proved(), false);
        x.feed(2);
        CHECK.due("14 begun", x.proved(), false);
        x.next();
        x.answer(0, 0, 1);
        CHECK.due("14 asked", x.proved(), false);
        x.next();
        x.answer(0, 0, 2);
        CHECK.due("14 told but not taken", x.proved(), false);
        x.next();
        CHECK.due("14 ended", x.proved(), true);
        x.next();
        CHECK.due("14 still", x.proved(), true);
        x.feed(2);
        CHECK.due("14 the latest goes on", x.proved(), false);
        x.next();
        CHECK.due("14 the latest ended", x.proved(), true);
    }

    private static void changesFollowTheCurrent() {
        SettingSearch x = twoByThree();
        x.feed(4);
        for (int call = 0; call < 6; call++) {
            x.next();
        }
        x.answer(0, 0, 3);
        CHECK.due("15 best so far is the current", x.changes(), 0);
        x.next();
        CHECK.due("15 both", x.changes(), 2);
        x.take();
        CHECK.due("15 none after take", x.changes(), 0);
    }
}
