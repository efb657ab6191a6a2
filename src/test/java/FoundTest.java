/** Promises 11 to 15, sentence by sentence: best, sum, bound, proved, changes. */
public final class FoundTest {
    private static final Check CHECK = new Check("FoundTest");

    public static void main(String[] args) {
        bestIsOfTheGreatestWorth();
        bestIsTheFirstOfEquals();
        bestIsTheFirstInTheOrderOfItsSearch();
        bestIsOfThoseThatStand();
        bestIsSoFar();
        bestIsNoneWhenThereIsNone();
        bestIsNoneOfOtherMachines();
        bestStaysWhenRulesChange();
        sumIsTheBestOnesWorth();
        sumIsBelowNought();
        sumIsTheLeastWhenThereIsNone();
        sumStaysAsFound();
        boundIsOfTheLatestSearch();
        boundIsByCentsAsTheyAreNow();
        boundIsNoneWhenThereWasNone();
        provedIsWhetherItEnded();
        provedIsOfTheLatestSearch();
        provedIsNotWithoutASearch();
        changesAreOfTheBestOne();
        changesAreByTheCurrentAsItIsNow();
        changesAreNoneWhenThereIsNone();
        CHECK.finish();
    }

    private static void bestIsOfTheGreatestWorth() {
        CHECK.sentence("11: the best vector: of the greatest worth");
        for (int n = 0; n < 6; n++) {
            SettingSearch x = Runs.twoByThree();
            long[] grams = {3, 3, 3, 3, 3, 3};
            grams[n] = 4;
            Runs.tell(x, 5, grams);
            CHECK.due("best(0)", x.best(0), n / 3);
            CHECK.due("best(1)", x.best(1), n % 3);
            CHECK.due("sum", x.sum(), 40);
        }
    }

    private static void bestIsTheFirstOfEquals() {
        CHECK.sentence("11: the best vector: the first in the order");
        SettingSearch x = Runs.twoByThree();
        Runs.tell(x, 4, 1, 2, 3, 3, 2, 3);
        CHECK.due("best", Runs.best(x, 2).toString(), "[0, 2]");
        SettingSearch y = Runs.twoByThree();
        Runs.tell(y, 4, 0, 0, 0, 0, 0, 0);
        CHECK.due("best of all equal", Runs.best(y, 2).toString(), "[0, 0]");
    }

    private static void bestIsTheFirstInTheOrderOfItsSearch() {
        CHECK.sentence("11: the first in the order: by the current one of the search");
        SettingSearch x = Runs.twoByThree();
        Runs.endAt(x, 9, 4);
        x.take();
        Runs.tell(x, 4, 0, 0, 0, 3, 3, 0);
        CHECK.due("[1, 2] goes before [0, 0] from [1, 1] on", Runs.best(x, 2).toString(), "[1, 2]");
        x.take();
        x.feed(4);
        CHECK.due("all kept", x.next(), 0);
        CHECK.due("best from itself on", Runs.best(x, 2).toString(), "[1, 2]");
    }

    private static void bestIsOfThoseThatStand() {
        CHECK.sentence("11: the best vector: of those whose answers stand");
        SettingSearch x = Runs.twoByThree();
        x.purity(0, 0, 1, 2);
        x.most(1, 9);
        x.feed(10);
        x.next();
        x.answer(0, 0, 4);
        x.answer(0, 1, 6);
        x.next();
        CHECK.due("not pure", x.best(0), -1);
        x.answer(0, 0, 9);
        x.load(1, 10);
        x.next();
        CHECK.due("too much load", x.best(0), -1);
        x.answer(0, 0, 3);
        x.answer(0, 2, 3);
        x.load(1, 9);
        x.next();
        CHECK.due("stands", Runs.best(x, 2).toString(), "[0, 2]");
        CHECK.due("its worth", x.sum(), 30);
    }

    private static void bestIsSoFar() {
        CHECK.sentence("11: in the best vector so far");
        SettingSearch x = Runs.twoByThree();
        x.feed(9);
        String[] sofar = {"[-1, -1]", "[0, 0]", "[0, 1]", "[0, 1]", "[1, 0]", "[1, 0]", "[1, 2]"};
        long[] grams = {0, 2, 1, 3, 3, 4};
        for (int n = 0; n < 6; n++) {
            x.next();
            x.answer(0, 0, grams[n]);
            CHECK.due("before answer " + n + " is taken", Runs.best(x, 2).toString(), sofar[n]);
        }
        x.next();
        CHECK.due("at the end", Runs.best(x, 2).toString(), sofar[6]);
    }

    /** Nothing of two vectors stands: the one load is too great, the other as well. */
    private static SettingSearch noneStands() {
        SettingSearch x = Runs.machines(2);
        x.most(0, 0);
        x.feed(3);
        x.next();
        x.load(0, 1);
        x.next();
        x.load(0, 1);
        x.next();
        return x;
    }

    private static void bestIsNoneWhenThereIsNone() {
        CHECK.sentence("11: NONE when there is none such");
        CHECK.due("new", new SettingSearch().best(0), -1);
        SettingSearch x = Runs.twoByThree();
        CHECK.due("no search", x.best(0), -1);
        x.feed(4);
        CHECK.due("begun", x.best(0), -1);
        x.next();
        CHECK.due("asked", x.best(0), -1);
        CHECK.due("none stands", noneStands().best(0), -1);
    }

    private static void bestIsNoneOfOtherMachines() {
        CHECK.sentence("11: NONE when there is no such machine");
        SettingSearch x = Runs.twoByThree();
        Runs.endAt(x, 4, 0);
        CHECK.due("best(1)", x.best(1), 0);
        CHECK.due("best(2)", x.best(2), -1);
        for (int machine : Runs.WRONG_MACHINES) {
            CHECK.due("best(" + machine + ")", x.best(machine), -1);
        }
    }

    private static void bestStaysWhenRulesChange() {
        CHECK.sentence("11: the best vector so far: rules told after its search change nothing");
        SettingSearch x = Runs.twoByThree();
        x.feed(5);
        x.next();
        x.answer(0, 0, 5);
        x.load(0, 9);
        x.next();
        x.most(0, 0);
        CHECK.due("none stands now", x.clash(0), 4);
        CHECK.due("best", x.best(0), 0);
        CHECK.due("sum", x.sum(), 50);
    }

    private static void sumIsTheBestOnesWorth() {
        CHECK.sentence("12: The best one's worth");
        SettingSearch x = Runs.machines(1);
        x.worth(0, 0, 1000);
        x.worth(2, 2, 1000);
        x.feed(1000000);
        x.next();
        x.answer(0, 0, 1);
        x.answer(2, 2, 999999);
        x.next();
        CHECK.due("greatest of all", x.sum(), 1000000000L);
        SettingSearch y = Runs.twoByThree();
        Runs.tell(y, 5, 0, 4, 1, 3, 2, 0);
        CHECK.due("of six", y.sum(), 40);
    }

    private static void sumIsBelowNought() {
        CHECK.sentence("12: The best one's worth: below 0");
        SettingSearch x = Runs.machines(2);
        x.worth(2, 0, -1000);
        x.feed(1000000);
        x.next();
        x.answer(2, 0, 1000000);
        CHECK.due("goes on", x.next(), 1);
        CHECK.due("least of all", x.sum(), -1000000000L);
        CHECK.due("its best", x.best(0), 0);
        x.answer(2, 0, 999999);
        x.next();
        CHECK.due("a little better", x.sum(), -999999000L);
        CHECK.due("its best then", x.best(0), 1);
    }

    private static void sumIsTheLeastWhenThereIsNone() {
        CHECK.sentence("12: Long.MIN_VALUE when there is none");
        CHECK.due("new", new SettingSearch().sum(), Long.MIN_VALUE);
        SettingSearch x = Runs.twoByThree();
        x.feed(4);
        CHECK.due("begun", x.sum(), Long.MIN_VALUE);
        x.next();
        x.answer(0, 0, 1);
        CHECK.due("told but not taken", x.sum(), Long.MIN_VALUE);
        CHECK.due("none stands", noneStands().sum(), Long.MIN_VALUE);
        SettingSearch y = Runs.machines(1);
        y.feed(4);
        y.next();
        y.next();
        CHECK.due("a worth of 0 is one", y.sum(), 0);
    }

    private static void sumStaysAsFound() {
        CHECK.sentence("12: The best one's worth: as its search found it");
        SettingSearch x = Runs.twoByThree();
        Runs.searchAll(x, 5, 2);
        x.worth(0, 0, 3);
        CHECK.due("sum", x.sum(), 20);
        CHECK.due("best", x.best(0), 0);
        x.feed(5);
        x.next();
        CHECK.due("sum of the next search", x.sum(), 6);
    }

    private static void boundIsOfTheLatestSearch() {
        CHECK.sentence("13: The bound of the latest search");
        SettingSearch x = Runs.twoByThree();
        x.feed(5);
        CHECK.due("begun", x.bound(), 50);
        x.next();
        CHECK.due("asked", x.bound(), 50);
        x.answer(0, 0, 5);
        x.next();
        CHECK.due("ended", x.bound(), 50);
        x.feed(7);
        CHECK.due("of the next one", x.bound(), 70);
        x.next();
        x.answer(0, 0, 7);
        x.next();
        x.feed(5);
        CHECK.due("of the first feed again", x.bound(), 50);
    }

    private static void boundIsByCentsAsTheyAreNow() {
        CHECK.sentence("13: by cents as they are now");
        SettingSearch x = Runs.twoByThree();
        Runs.searchAll(x, 5, 2);
        x.worth(2, 2, 12);
        CHECK.due("by more cents", x.bound(), 60);
        x.worth(2, 2, -12);
        CHECK.due("by less", x.bound(), 50);
        x.worth(0, 0, -1);
        CHECK.due("0 at least", x.bound(), 0);
        x.worth(1, 0, 1000);
        CHECK.due("by 1000", x.bound(), 5000);
        CHECK.due("proved stays", x.proved(), true);
    }

    private static void boundIsNoneWhenThereWasNone() {
        CHECK.sentence("13: NONE when there was none");
        CHECK.due("new", new SettingSearch().bound(), -1);
        SettingSearch x = Runs.twoByThree();
        CHECK.due("no feed", x.bound(), -1);
        x.feed(1000001);
        CHECK.due("a refused feed", x.bound(), -1);
        Runs.searchAll(x, 5, 2);
        x.machine(1);
        CHECK.due("one more machine", x.bound(), -1);
    }

    private static void provedIsWhetherItEnded() {
        CHECK.sentence("14: Whether the latest search ended");
        SettingSearch x = Runs.machines(2);
        x.worth(0, 0, 1);
        x.feed(2);
        CHECK.due("begun", x.proved(), false);
        x.next();
        CHECK.due("asked", x.proved(), false);
        x.answer(0, 0, 1);
        x.next();
        x.answer(0, 0, 2);
        CHECK.due("told but not taken", x.proved(), false);
        x.next();
        CHECK.due("ended", x.proved(), true);
        CHECK.due("ended without a best", noneStands().proved(), true);
        SettingSearch y = Runs.twoByThree();
        Runs.endAt(y, 3, 2);
        CHECK.due("ended at the bound", y.proved(), true);
        y.take();
        y.next();
        y.worth(0, 0, 1000);
        CHECK.due("still", y.proved(), true);
    }

    private static void provedIsOfTheLatestSearch() {
        CHECK.sentence("14: Whether the LATEST search ended");
        SettingSearch x = Runs.twoByThree();
        Runs.searchAll(x, 5, 2);
        x.feed(5);
        CHECK.due("the next one of the same feed goes on", x.proved(), false);
        x.next();
        CHECK.due("it ended", x.proved(), true);
        x.feed(6);
        CHECK.due("one of another feed goes on", x.proved(), false);
    }

    private static void provedIsNotWithoutASearch() {
        CHECK.sentence("14: Whether the latest search ended: there is none");
        CHECK.due("new", new SettingSearch().proved(), false);
        SettingSearch x = Runs.twoByThree();
        CHECK.due("no feed", x.proved(), false);
        x.feed(0);
        CHECK.due("a refused feed", x.proved(), false);
        Runs.searchAll(x, 5, 2);
        x.machine(1);
        CHECK.due("one more machine", x.proved(), false);
    }

    private static void changesAreOfTheBestOne() {
        CHECK.sentence("15: The best one's changes");
        SettingSearch x = Runs.twoByThree();
        x.feed(9);
        int[] sofar = {-1, 0, 1, 1, 1, 2};
        for (int n = 0; n < 6; n++) {
            x.next();
            x.answer(0, 0, n + 1);
            CHECK.due("before answer " + n + " is taken", x.changes(), sofar[n]);
        }
        x.next();
        CHECK.due("at the end", x.changes(), 2);
    }

    private static void changesAreByTheCurrentAsItIsNow() {
        CHECK.sentence("15: by the current settings as they are now");
        SettingSearch x = Runs.twoByThree();
        Runs.endAt(x, 9, 5);
        CHECK.due("before take", x.changes(), 2);
        x.take();
        CHECK.due("after take", x.changes(), 0);
        Runs.tell(x, 8, 0, 0, 1, 0, 0, 0);
        CHECK.due("best from [1, 2] on", Runs.best(x, 2).toString(), "[1, 0]");
        CHECK.due("its changes", x.changes(), 1);
    }

    private static void changesAreNoneWhenThereIsNone() {
        CHECK.sentence("15: NONE when there is none");
        CHECK.due("new", new SettingSearch().changes(), -1);
        SettingSearch x = Runs.twoByThree();
        CHECK.due("no search", x.changes(), -1);
        x.feed(4);
        x.next();
        CHECK.due("asked", x.changes(), -1);
        CHECK.due("none stands", noneStands().changes(), -1);
        SettingSearch y = Runs.twoByThree();
        Runs.endAt(y, 9, 5);
        y.machine(1);
        CHECK.due("one more machine", y.changes(), -1);
    }
}
