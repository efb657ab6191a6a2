/** Promises 16 to 19, sentence by sentence: take, kept, clash, room. */
public final class AfterSearchTest {
    private static final Check CHECK = new Check("AfterSearchTest");

    public static void main(String[] args) {
        takeMakesTheBestCurrent();
        takeLeavesWhatWasFound();
        takeAnswersHowManyChanged();
        takeIsNoneWhenThereIsNone();
        keptCountsByFeed();
        keptCountsEachVectorOnce();
        keptIsNoughtOfOtherFeeds();
        clashOnlyWhenEnded();
        clashOnlyWhenNoneStands();
        clashOfTheAnswersOfItsFeed();
        clashOfAnswersNotGoneThrough();
        clashOf64Answers();
        clashByRulesAsTheyAreNow();
        clashOfAnswersThatStandNow();
        clashOfTheFewestRules();
        clashOfRulesToldAlone();
        clashOfTheLeastSum();
        clashOfAllNineRules();
        clashCountsByNumbers();
        clashIsNoneBeyondTheSet();
        roomIsWhatAMostCosts();
        roomIsNoughtWithoutAMost();
        roomLeavesTheOtherRules();
        roomOfTheAnswersOfItsFeed();
        roomOfAnswersNotGoneThrough();
        roomOf64Answers();
        roomByCentsAndRulesAsTheyAreNow();
        roomOfAnswersThatStandNow();
        roomOfGreatNumbers();
        roomIsTheLeastWhenNoneStands();
        roomIsTheLeastWhenItDidNotEnd();
        roomIsTheLeastOfOtherMachines();
        CHECK.finish();
    }

    private static void takeMakesTheBestCurrent() {
        CHECK.sentence("16: The best one becomes the current vector");
        SettingSearch x = Runs.machines(2, 2, 2);
        x.worth(0, 0, 1);
        Runs.endAt(x, 3, 5);
        CHECK.due("best", Runs.best(x, 3).toString(), "[1, 0, 1]");
        x.take();
        x.feed(4);
        x.next();
        CHECK.due("asked first", Runs.asked(x, 3).toString(), "[1, 0, 1]");
        x.next();
        CHECK.due("asked then", Runs.asked(x, 3).toString(), "[0, 0, 1]");
        x.answer(0, 0, 4);
        x.next();
        x.take();
        x.feed(5);
        x.next();
        CHECK.due("asked first after another take", Runs.asked(x, 3).toString(), "[0, 0, 1]");
    }

    private static void takeLeavesWhatWasFound() {
        CHECK.sentence("16: no more than that changes");
        SettingSearch x = Runs.machines(2, 2, 2);
        x.worth(0, 0, 1);
        Runs.endAt(x, 3, 5);
        x.take();
        CHECK.due("best", Runs.best(x, 3).toString(), "[1, 0, 1]");
        CHECK.due("sum", x.sum(), 3);
        CHECK.due("bound", x.bound(), 3);
        CHECK.due("proved", x.proved(), true);
        CHECK.due("kept", x.kept(3), 6);
        CHECK.due("room", x.room(0), 0);
        CHECK.due("next", x.next(), -1);
    }

    private static void takeAnswersHowManyChanged() {
        CHECK.sentence("16: Answers how many settings changed");
        SettingSearch x = Runs.machines(2, 2, 2, 2, 2);
        x.worth(0, 0, 1);
        Runs.endAt(x, 3, 31);
        CHECK.due("all five", x.take(), 5);
        CHECK.due("again none", x.take(), 0);
        Runs.endAt(x, 4, 0);
        CHECK.due("the current one itself", x.take(), 0);
        Runs.endAt(x, 5, 1);
        CHECK.due("one", x.take(), 1);
    }

    private static void takeIsNoneWhenThereIsNone() {
        CHECK.sentence("16: NONE when there is none such");
        SettingSearch x = Runs.twoByThree();
        CHECK.due("no search", x.take(), -1);
        x.most(0, 0);
        x.feed(1);
        for (int vector = 0; vector < 6; vector++) {
            x.next();
            x.load(0, 1);
        }
        CHECK.due("end", x.next(), 0);
        CHECK.due("none stands", x.take(), -1);
        x.most(0, -1);
        CHECK.due("none was found", x.take(), -1);
        x.feed(1);
        x.next();
        CHECK.due("found now", x.take(), 0);
        x.machine(1);
        CHECK.due("forgotten", x.take(), -1);
    }

    private static void keptCountsByFeed() {
        CHECK.sentence("17: How many answers are kept of a feed");
        SettingSearch x = Runs.machines(4);
        x.worth(0, 0, 1);
        x.feed(5);
        CHECK.due("begun", x.kept(5), 0);
        x.next();
        x.answer(0, 0, 1);
        CHECK.due("told but not taken", x.kept(5), 0);
        x.next();
        CHECK.due("taken", x.kept(5), 1);
        x.answer(0, 0, 5);
        x.next();
        CHECK.due("ended early", x.kept(5), 2);
        CHECK.due("all of another feed", Runs.searchAll(x, 6, 2), 4);
        CHECK.due("of 6", x.kept(6), 4);
        CHECK.due("of 5", x.kept(5), 2);
    }

    private static void keptCountsEachVectorOnce() {
        CHECK.sentence("17: How many answers are kept: of each vector one");
        SettingSearch x = Runs.machines(4, 4, 4);
        x.worth(0, 0, 1);
        Runs.endAt(x, 5, 1);
        CHECK.due("two", x.kept(5), 2);
        x.worth(0, 0, 0);
        x.worth(0, 1, 1);
        CHECK.due("the others are asked for", Runs.searchAll(x, 5, 2), 62);
        CHECK.due("all", x.kept(5), 64);
        CHECK.due("none is asked for", Runs.searchAll(x, 5, 2), 0);
        CHECK.due("all still", x.kept(5), 64);
    }

    private static void keptIsNoughtOfOtherFeeds() {
        CHECK.sentence("17: How many answers are kept of a feed: none");
        SettingSearch x = Runs.machines(1);
        CHECK.due("nothing searched", x.kept(6), 0);
        Runs.searchAll(x, 6, 2);
        CHECK.due("of 6", x.kept(6), 1);
        long[] others = {5, 7, 0, -1, -6, 1000001, (1L << 32) + 6, -(1L << 32) + 6,
            Long.MAX_VALUE, Long.MIN_VALUE, Long.MIN_VALUE + 6};
        for (long feed : others) {
            CHECK.due("of " + feed, x.kept(feed), 0);
        }
    }

    /** Four vectors of worths 10 to 40; the answer of vector i has the loads of row i. */
    private static SettingSearch withLoads(int[]... loads) {
        SettingSearch x = Runs.machines(4);
        for (int machine = 1; machine < loads[0].length; machine++) {
            x.machine(1);
        }
        x.worth(0, 0, 1);
        x.feed(100);
        for (int row = 0; row < loads.length; row++) {
            x.next();
            x.answer(0, 0, 10 * (row + 1));
            for (int machine = 0; machine < loads[row].length; machine++) {
                x.load(machine, loads[row][machine]);
            }
        }
        x.next();
        return x;
    }

    private static int[] row(int... loads) {
        return loads;
    }

    private static void mosts(SettingSearch x, int... v) {
        for (int machine = 0; machine < v.length; machine++) {
            x.most(machine, v[machine]);
        }
    }

    private static void dueClash(SettingSearch x, String when, int... rules) {
        for (int k = 0; k < rules.length; k++) {
            CHECK.due(when + " clash(" + k + ")", x.clash(k), rules[k]);
        }
        CHECK.due(when + " clash(" + rules.length + ")", x.clash(rules.length), -1);
    }

    private static void clashOnlyWhenEnded() {
        CHECK.sentence("18: When the latest search ended");
        SettingSearch x = Runs.machines(2);
        x.most(0, 0);
        dueClash(x, "nothing searched");
        x.feed(3);
        dueClash(x, "begun");
        x.next();
        x.load(0, 1);
        x.next();
        dueClash(x, "one kept, which does not stand");
        x.load(0, 1);
        dueClash(x, "both told");
        x.next();
        dueClash(x, "ended", 4);
        x.feed(3);
        dueClash(x, "another goes on");
        x.next();
        dueClash(x, "it ended", 4);
        x.machine(1);
        dueClash(x, "forgotten");
    }

    private static void clashOnlyWhenNoneStands() {
        CHECK.sentence("18: and of the answers kept of its feed none stands");
        SettingSearch x = withLoads(row(9, 9), row(9, 9), row(9, 9), row(9, 5));
        dueClash(x, "no rules");
        mosts(x, 9, 5);
        dueClash(x, "the last stands");
        mosts(x, 9, 4);
        dueClash(x, "none stands", 5);
    }

    private static void clashOfTheAnswersOfItsFeed() {
        CHECK.sentence("18: of the answers kept OF ITS FEED");
        SettingSearch x = withLoads(row(5), row(5), row(5), row(5));
        Runs.searchAll(x, 50, 1);
        x.most(0, 4);
        dueClash(x, "those of feed 50 stand");
        x.feed(100);
        x.next();
        dueClash(x, "those of feed 100 do not", 4);
        x.most(0, 5);
        dueClash(x, "all four of feed 100 stand");
        x.worth(0, 0, 0);
        x.feed(70);
        x.next();
        x.load(0, 4);
        x.next();
        CHECK.due("one answer of feed 70", x.kept(70), 1);
        x.most(0, 3);
        dueClash(x, "it does not stand", 4);
        x.most(0, 4);
        dueClash(x, "it stands");
    }

    private static void clashOfAnswersNotGoneThrough() {
        CHECK.sentence("18: of the answers KEPT of its feed, gone through or not");
        SettingSearch x = withLoads(row(5), row(6), row(7), row(4));
        x.worth(0, 0, 0);
        x.feed(100);
        CHECK.due("ends at the first", x.next(), 0);
        CHECK.due("best", x.best(0), 0);
        x.most(0, 4);
        dueClash(x, "the last one stands");
        x.most(0, 3);
        dueClash(x, "none stands", 4);
        SettingSearch y = Runs.machines(2);
        y.feed(3);
        y.next();
        y.load(0, 3);
        CHECK.due("ends with one answer", y.next(), 0);
        y.most(0, 2);
        dueClash(y, "the one kept does not stand", 4);
    }

    /** 64 answers of worths 0 to 63; the load of vector i in the order is 100 - i. */
    private static SettingSearch with64Loads() {
        SettingSearch x = Runs.machines(4, 4, 4);
        x.worth(0, 0, 1);
        x.feed(100);
        for (int vector = 0; vector < 64; vector++) {
            x.next();
            x.answer(0, 0, vector);
            x.load(2, 100 - vector);
        }
        CHECK.due("end", x.next(), 0);
        CHECK.due("kept", x.kept(100), 64);
        return x;
    }

    private static void clashOf64Answers() {
        CHECK.sentence("18: of the answers kept of its feed: 64");
        SettingSearch x = with64Loads();
        x.most(2, 37);
        dueClash(x, "the last stands");
        x.most(2, 36);
        dueClash(x, "none stands", 6);
    }

    private static void clashByRulesAsTheyAreNow() {
        CHECK.sentence("18: by the rules as they are now");
        SettingSearch x = withLoads(row(1), row(2), row(3), row(4));
        x.purity(0, 0, 1, 1);
        x.purity(1, 0, 1, 1);
        dueClash(x, "two that are kept");
        x.most(0, 0);
        dueClash(x, "a most that is not", 4);
        x.most(0, 1);
        dueClash(x, "a most that is kept");
        x.purity(0, 1, 1, 1000);
        dueClash(x, "a purity that is not", 2);
        CHECK.due("best stays", x.best(0), 3);
    }

    private static void clashOfAnswersThatStandNow() {
        CHECK.sentence("18: none stands by the rules as they are now: though none stood in the search");
        SettingSearch x = noneStood();
        dueClash(x, "none stands", 4);
        x.most(0, 1);
        dueClash(x, "the first stands now");
        x.purity(0, 1, 1, 1);
        dueClash(x, "no longer", 0);
        x.most(0, 0);
        dueClash(x, "either rule alone, the lesser number", 0);
    }

    private static void clashOfTheFewestRules() {
        CHECK.sentence("18: the fewest rules told of which none of these keeps all");
        SettingSearch x = withLoads(row(0, 0, 9, 0), row(0, 9, 0, 0), row(9, 0, 0, 0), row(9, 9, 9, 0));
        mosts(x, 1, 1, 1, 1);
        dueClash(x, "three, of which two are always kept", 4, 5, 6);
        SettingSearch y = withLoads(row(0, 0, 9, 9), row(0, 9, 0, 9), row(9, 0, 0, 9), row(0, 9, 9, 0));
        mosts(y, 1, 1, 1, 1);
        dueClash(y, "two with a greater sum than three", 5, 7);
        y.purity(0, 0, 0, 1);
        y.purity(0, 0, 0, 1);
        y.purity(0, 1, 1, 1);
        dueClash(y, "one", 2);
        mosts(y, -1, -1, 1, -1);
        dueClash(y, "one told beside others", 2);
    }

    private static void clashOfRulesToldAlone() {
        CHECK.sentence("18: the fewest rules TOLD");
        SettingSearch x = withLoads(row(9, 9), row(9, 9), row(9, 9), row(9, 9));
        mosts(x, 1, 1);
        dueClash(x, "the first of two", 4);
        mosts(x, -1, 1);
        dueClash(x, "the one that is told", 5);
        mosts(x, -1, -1);
        dueClash(x, "none is told");
    }

    private static void clashOfTheLeastSum() {
        CHECK.sentence("18: of such sets of rules the one whose sum of 2^r for its rules r is least");
        // {4, 7} and {5, 6} clash: 16 + 128 is more than 32 + 64.
        SettingSearch x = withLoads(row(0, 0, 9, 9), row(0, 9, 0, 9), row(9, 0, 9, 0), row(9, 9, 0, 0));
        mosts(x, 1, 1, 1, 1);
        dueClash(x, "{5, 6} before {4, 7}", 5, 6);
        SettingSearch y = withLoads(row(1, 1, 9), row(1, 1, 9), row(9, 9, 1), row(9, 1, 9));
        mosts(y, 1, 1, 1);
        dueClash(y, "{4, 6} before {5, 6}", 4, 6);
        SettingSearch z = withLoads(row(9, 9, 9, 9, 9), row(9, 9, 9, 9, 9), row(9, 9, 9, 9, 9), row(9, 9, 9, 9, 9));
        mosts(z, 1, 1, 1, 1, 1);
        for (int rule = 4; rule < 9; rule++) {
            dueClash(z, "the least of those left", rule);
            z.most(rule - 4, -1);
        }
    }

    /** Each of nine answers breaks one rule of its own, three more break all mosts and two purities. */
    private static SettingSearch nineAgainstNine() {
        SettingSearch x = Runs.machines(4, 3, 1, 1, 1);
        for (int rule = 0; rule < 4; rule++) {
            x.purity(rule / 2, rule % 2, 1, 3);
        }
        mosts(x, 1, 1, 1, 1, 1);
        x.worth(2, 2, 1);
        x.feed(9);
        for (int broken = 0; broken < 12; broken++) {
            x.next();
            for (int rule = 0; rule < 4; rule++) {
                x.answer(rule / 2, rule % 2, broken == rule ? 0 : 1);
            }
            x.answer(0, 2, broken >= 9 ? 4 : 0);
            for (int machine = 0; machine < 5; machine++) {
                x.load(machine, broken == 4 + machine || broken >= 9 ? 2 : 1);
            }
        }
        CHECK.due("all gone through", x.next(), 0);
        return x;
    }

    private static void clashOfAllNineRules() {
        CHECK.sentence("18: the fewest rules: all nine");
        for (int machine = 0; machine < 5; machine++) {
            SettingSearch x = nineAgainstNine();
            dueClash(x, "all nine", 0, 1, 2, 3, 4, 5, 6, 7, 8);
            x.most(machine, -1);
            dueClash(x, "all but one");
        }
    }

    private static void clashCountsByNumbers() {
        CHECK.sentence("18: the k-th, by numbers");
        SettingSearch x = withLoads(row(0, 0, 9), row(0, 0, 9), row(9, 9, 0), row(9, 9, 0));
        x.most(2, 1);
        x.purity(0, 0, 1, 1);
        x.most(1, 1);
        CHECK.due("clash(0)", x.clash(0), 5);
        CHECK.due("clash(1)", x.clash(1), 6);
    }

    private static void clashIsNoneBeyondTheSet() {
        CHECK.sentence("18: Else, and when there is none such, NONE");
        SettingSearch x = withLoads(row(0, 9), row(0, 9), row(9, 0), row(9, 0));
        mosts(x, 1, 1);
        int[] beyond = {-1, -2, -32, 2, 3, 8, 9, 31, 32, 33, 64, Integer.MIN_VALUE, Integer.MAX_VALUE};
        for (int k : beyond) {
            CHECK.due("clash(" + k + ")", x.clash(k), -1);
        }
        mosts(x, 9, 9);
        for (int k : beyond) {
            CHECK.due("one stands, clash(" + k + ")", x.clash(k), -1);
        }
    }

    private static void roomIsWhatAMostCosts() {
        CHECK.sentence("19: the greatest worth .. when the machine has no most, less that of those that stand");
        SettingSearch x = withLoads(row(1, 1), row(1, 2), row(2, 1), row(2, 2));
        mosts(x, 1, 1);
        CHECK.due("machine 0's", x.room(0), 20);
        CHECK.due("machine 1's", x.room(1), 10);
        mosts(x, 1, 2);
        CHECK.due("machine 0's beside a most of 2", x.room(0), 20);
        CHECK.due("machine 1's that costs nothing", x.room(1), 0);
        SettingSearch y = withLoads(row(1, 1, 1, 1, 1), row(1, 1, 1, 1, 2), row(1, 1, 1, 2, 1), row(2, 2, 2, 1, 1));
        mosts(y, 1, 1, 1, 1, 1);
        long[] rooms = {0, 0, 0, 20, 10};
        for (int machine = 0; machine < 5; machine++) {
            CHECK.due("of five, machine " + machine + "'s", y.room(machine), rooms[machine]);
        }
    }

    private static void roomIsNoughtWithoutAMost() {
        CHECK.sentence("19: when the machine has no most: it has none anyway");
        SettingSearch x = withLoads(row(1, 1), row(1, 2), row(2, 1), row(2, 2));
        CHECK.due("no rules", x.room(0), 0);
        mosts(x, -1, 1);
        CHECK.due("no most of machine 0", x.room(0), 0);
        CHECK.due("machine 1's costs", x.room(1), 10);
    }

    private static void roomLeavesTheOtherRules() {
        CHECK.sentence("19: that stand when the machine has no most: all other rules are to be kept");
        for (int rule = 0; rule < 4; rule++) {
            SettingSearch x = withImpureLast();
            for (int other = 0; other < 4; other++) {
                x.purity(1, other == rule ? 0 : 2, other == rule ? 1 : 0, 1);
            }
            x.most(0, 1);
            CHECK.due("the last breaks purity " + rule, x.room(0), 10);
        }
        SettingSearch y = withImpureLast();
        y.most(0, 1);
        CHECK.due("without a purity", y.room(0), 20);
    }

    /** Three vectors of worths 10 to 30, loads 1 to 3; port 1 of the last has another kind than 0. */
    private static SettingSearch withImpureLast() {
        SettingSearch x = Runs.machines(3);
        x.worth(0, 0, 1);
        x.feed(100);
        for (int row = 1; row <= 3; row++) {
            x.next();
            x.answer(0, 0, 10 * row);
            x.answer(1, row == 3 ? 1 : 0, 1);
            x.load(0, row);
        }
        x.next();
        return x;
    }

    private static void roomOfTheAnswersOfItsFeed() {
        CHECK.sentence("19: of the answers kept OF ITS FEED");
        SettingSearch x = withLoads(row(1), row(2), row(3), row(4));
        x.most(0, 1);
        CHECK.due("of feed 100", x.room(0), 30);
        x.feed(30);
        x.next();
        x.answer(0, 0, 30);
        x.next();
        CHECK.due("of feed 30", x.room(0), 0);
    }

    private static void roomOfAnswersNotGoneThrough() {
        CHECK.sentence("19: of the answers KEPT of its feed, gone through or not");
        SettingSearch x = withLoads(row(1), row(1), row(1), row(2));
        x.worth(0, 0, 0);
        x.feed(100);
        CHECK.due("ends at the first", x.next(), 0);
        x.worth(0, 0, 1);
        x.most(0, 1);
        CHECK.due("the third stands, the fourth would", x.room(0), 10);
    }

    private static void roomOf64Answers() {
        CHECK.sentence("19: of the answers kept of its feed: 64");
        SettingSearch x = with64Loads();
        x.worth(0, 0, -1);
        x.most(2, 37);
        CHECK.due("the last stands, the first would", x.room(2), 63);
        x.most(2, 99);
        CHECK.due("the second stands", x.room(2), 1);
        CHECK.due("of a machine without a most", x.room(1), 0);
        x.most(2, 36);
        CHECK.due("none stands", x.room(2), Runs.NO_SUM);
    }

    private static void roomByCentsAndRulesAsTheyAreNow() {
        CHECK.sentence("19: by cents and rules as they are now");
        SettingSearch x = withLoads(row(1), row(2), row(3), row(4));
        x.most(0, 1);
        x.worth(0, 0, 7);
        CHECK.due("by 7 cents", x.room(0), 210);
        x.worth(0, 0, -7);
        CHECK.due("by cents below 0", x.room(0), 0);
        x.worth(0, 0, 2);
        x.most(0, 2);
        CHECK.due("by a most of 2", x.room(0), 40);
        x.purity(0, 0, 1, 1);
        CHECK.due("by a purity that all keep", x.room(0), 40);
        x.most(0, 0);
        x.most(0, -1);
        CHECK.due("by no most", x.room(0), 0);
    }

    /** A search without a best one: two answers of worths 10 and 20, loads 1 and 2, a most of 0. */
    private static SettingSearch noneStood() {
        SettingSearch x = Runs.machines(2);
        x.worth(0, 0, 1);
        x.most(0, 0);
        x.feed(100);
        for (int row = 1; row <= 2; row++) {
            x.next();
            x.answer(0, 0, 10 * row);
            x.load(0, row);
        }
        CHECK.due("end", x.next(), 0);
        CHECK.due("no best one", x.best(0), -1);
        return x;
    }

    private static void roomOfAnswersThatStandNow() {
        CHECK.sentence("19: by rules as they are now: when none stood in the search");
        SettingSearch x = noneStood();
        CHECK.due("none stands", x.room(0), Runs.NO_SUM);
        x.most(0, 1);
        CHECK.due("the first stands now", x.room(0), 10);
        x.most(0, 2);
        CHECK.due("both stand now", x.room(0), 0);
        x.most(0, -1);
        CHECK.due("no rule is left", x.room(0), 0);
        CHECK.due("the search found none", x.sum(), Runs.NO_SUM);
    }

    private static void roomOfGreatNumbers() {
        CHECK.sentence("19: from the least worth to the greatest");
        SettingSearch x = Runs.machines(2);
        x.worth(0, 0, -1000);
        x.worth(1, 0, 1000);
        x.feed(1000000);
        x.next();
        x.answer(0, 0, 1000000);
        x.next();
        x.answer(1, 0, 1000000);
        x.load(0, 1);
        x.next();
        x.most(0, 0);
        CHECK.due("room", x.room(0), 2000000000L);
    }

    private static void roomIsTheLeastWhenNoneStands() {
        CHECK.sentence("19: Long.MIN_VALUE when none stands");
        SettingSearch x = withLoads(row(5), row(2), row(3), row(4));
        x.most(0, 1);
        CHECK.due("too much load", x.room(0), Runs.NO_SUM);
        x.most(0, 2);
        CHECK.due("one stands", x.room(0), 20);
        x.purity(0, 1, 1, 1);
        CHECK.due("none is pure", x.room(0), Runs.NO_SUM);
        x.most(0, -1);
        CHECK.due("none is pure, no most", x.room(0), Runs.NO_SUM);
    }

    private static void roomIsTheLeastWhenItDidNotEnd() {
        CHECK.sentence("19: Long.MIN_VALUE when it did not end");
        SettingSearch x = Runs.twoByThree();
        CHECK.due("nothing searched", x.room(0), Runs.NO_SUM);
        x.feed(9);
        CHECK.due("begun", x.room(0), Runs.NO_SUM);
        x.next();
        x.answer(0, 0, 1);
        x.next();
        CHECK.due("one kept", x.room(0), Runs.NO_SUM);
        x.answer(0, 0, 9);
        x.next();
        CHECK.due("ended", x.room(0), 0);
        x.feed(9);
        CHECK.due("another goes on", x.room(0), Runs.NO_SUM);
        x.next();
        CHECK.due("it ended", x.room(0), 0);
        x.machine(1);
        CHECK.due("forgotten", x.room(0), Runs.NO_SUM);
    }

    private static void roomIsTheLeastOfOtherMachines() {
        CHECK.sentence("19: Long.MIN_VALUE when there is no such machine");
        SettingSearch x = withLoads(row(1, 1), row(2, 2), row(3, 3), row(4, 4));
        CHECK.due("room(1)", x.room(1), 0);
        for (int machine = 2; machine < 5; machine++) {
            CHECK.due("room(" + machine + ")", x.room(machine), Runs.NO_SUM);
        }
        for (int machine : Runs.WRONG_MACHINES) {
            CHECK.due("room(" + machine + ")", x.room(machine), Runs.NO_SUM);
        }
    }
}
