import java.util.List;

/** Promises 6 to 10, sentence by sentence: feed, next, asked, answer, load. */
public final class SearchTest {
    private static final Check CHECK = new Check("SearchTest");

    public static void main(String[] args) {
        feedBeginsASearch();
        feedTakesItsEdges();
        feedRefusesOtherGrams();
        feedRefusesWithoutAMachine();
        feedRefusesAFifth();
        feedTakesOneOfTheFour();
        nextTakesTheAnswerAsItWasTold();
        nextTakesNoughtForGramsNotTold();
        nextTakesNoughtForLoadsNotTold();
        nextTakesNothingOfForgottenAnswers();
        nextTakesNothingBeforeItAsked();
        nextGoesOnThroughKeptAnswers();
        nextGoesOnToTheBoundOfKeptAnswers();
        nextAnswersOneWhenItAsks();
        nextAnswersNoughtAtTheEnd();
        nextAnswersNoneWhenNoneGoesOn();
        askedIsTheSettingAskedFor();
        askedIsNoneWhenNoneIsAsked();
        askedIsNoneOfOtherMachines();
        answerIsNoughtOrMore();
        answerIsToldAnew();
        answerRefusesWhenNoneIsAsked();
        answerRefusesOtherPlaces();
        answerRefusesGramsBelowNought();
        answerRefusesMoreThanTheFeed();
        loadTakesItsEdges();
        loadIsToldAnew();
        loadRefusesOtherNumbers();
        loadRefusesOtherMachines();
        loadRefusesWhenNoneIsAsked();
        CHECK.finish();
    }

    private static void feedBeginsASearch() {
        CHECK.sentence("6: Begins a search");
        SettingSearch x = Runs.twoByThree();
        Runs.tell(x, 5, 1, 2, 3, 3, 2, 1);
        CHECK.due("feed again", x.feed(5), true);
        CHECK.due("proved", x.proved(), false);
        CHECK.due("asked", x.asked(0), -1);
        CHECK.due("best", x.best(0), -1);
        CHECK.due("sum", x.sum(), Runs.NO_SUM);
        CHECK.due("changes", x.changes(), -1);
        CHECK.due("kept", x.kept(5), 6);
        CHECK.due("next", x.next(), 0);
        CHECK.due("sum then", x.sum(), 30);
    }

    private static void feedTakesItsEdges() {
        CHECK.sentence("6: for a feed of 1 .. 1000000 grams. Answers true");
        long[] edges = {1, 2, 999999, 1000000};
        for (long grams : edges) {
            SettingSearch x = Runs.twoByThree();
            CHECK.due("feed(" + grams + ")", x.feed(grams), true);
            CHECK.due("bound", x.bound(), 10 * grams);
            CHECK.due("next", x.next(), 1);
        }
    }

    private static void feedRefusesOtherGrams() {
        CHECK.sentence("6: false when it is not such");
        SettingSearch x = Runs.machines(1);
        long[] wrong = {0, -1, 1000001, 1L << 32, (1L << 32) + 1, (1L << 32) + 1000000, -(1L << 32) + 1,
            Integer.MIN_VALUE, Integer.MAX_VALUE, Long.MIN_VALUE, Long.MIN_VALUE + 1, Long.MAX_VALUE};
        for (long grams : wrong) {
            CHECK.due("feed(" + grams + ")", x.feed(grams), false);
        }
        CHECK.due("nothing began", x.next(), -1);
        CHECK.due("no bound", x.bound(), -1);
    }

    private static void feedRefusesWithoutAMachine() {
        CHECK.sentence("6: false when there is no machine");
        SettingSearch x = new SettingSearch();
        CHECK.due("feed(1)", x.feed(1), false);
        x.worth(0, 0, 1);
        x.purity(0, 0, 1, 1);
        x.machine(5);
        CHECK.due("feed(1000000)", x.feed(1000000), false);
        CHECK.due("bound", x.bound(), -1);
        CHECK.due("next", x.next(), -1);
        x.machine(1);
        CHECK.due("feed with a machine", x.feed(1), true);
    }

    private static SettingSearch withFourFeeds() {
        SettingSearch x = Runs.machines(1);
        for (int feed = 10; feed < 14; feed++) {
            CHECK.due("feed(" + feed + ")", x.feed(feed), true);
            x.next();
            x.next();
        }
        return x;
    }

    private static void feedRefusesAFifth() {
        CHECK.sentence("6: false when answers of 4 other feeds are kept");
        SettingSearch x = withFourFeeds();
        CHECK.due("fifth feed", x.feed(14), false);
        CHECK.due("fifth feed, the least", x.feed(1), false);
        CHECK.due("the latest search stays", x.proved(), true);
        CHECK.due("its answer stays", x.kept(13), 1);
        CHECK.due("none of the fifth", x.kept(14), 0);
        x.machine(1);
        CHECK.due("when none is kept any more", x.feed(14), true);
    }

    private static void feedTakesOneOfTheFour() {
        CHECK.sentence("6: of 4 OTHER feeds: one of the four is not refused");
        SettingSearch x = withFourFeeds();
        for (int feed = 13; feed >= 10; feed--) {
            CHECK.due("feed(" + feed + ")", x.feed(feed), true);
            CHECK.due("its answer is kept", x.next(), 0);
        }
        CHECK.due("a fifth is still refused", x.feed(14), false);
    }

    private static void nextTakesTheAnswerAsItWasTold() {
        CHECK.sentence("7: Takes the answer that was asked for, as it was told");
        SettingSearch x = Runs.twoByThree();
        x.worth(1, 2, -1);
        x.feed(10);
        x.next();
        x.answer(0, 0, 3);
        x.answer(1, 2, 7);
        CHECK.due("not taken yet", x.sum(), Runs.NO_SUM);
        CHECK.due("not kept yet", x.kept(10), 0);
        x.next();
        CHECK.due("sum", x.sum(), 23);
        CHECK.due("kept", x.kept(10), 1);
    }

    private static void nextTakesNoughtForGramsNotTold() {
        CHECK.sentence("7: what was not told is 0: grams");
        SettingSearch x = Runs.machines(2);
        x.worth(0, 0, 10);
        x.worth(2, 2, -10);
        x.feed(5);
        x.next();
        x.answer(0, 0, 1);
        x.answer(2, 2, 4);
        x.next();
        CHECK.due("sum of what was told", x.sum(), -30);
        CHECK.due("all of the feed is left", x.answer(1, 1, 5), true);
        x.next();
        CHECK.due("sum of what was not", x.sum(), 0);
        CHECK.due("best", x.best(0), 1);
    }

    private static void nextTakesNoughtForLoadsNotTold() {
        CHECK.sentence("7: what was not told is 0: loads");
        SettingSearch x = Runs.machines(2, 1, 1, 1, 1);
        for (int machine = 0; machine < 5; machine++) {
            x.most(machine, 0);
        }
        x.feed(5);
        x.next();
        for (int machine = 0; machine < 5; machine++) {
            x.load(machine, 1);
        }
        x.next();
        CHECK.due("too much load", x.best(0), -1);
        x.next();
        CHECK.due("loads of 0", x.best(0), 1);
    }

    private static void nextTakesNothingOfForgottenAnswers() {
        CHECK.sentence("7: what was not told is 0: though it was before machine()");
        SettingSearch x = Runs.machines(1);
        x.worth(0, 0, 10);
        x.most(0, 0);
        x.feed(5);
        x.next();
        x.answer(0, 0, 4);
        x.load(0, 1);
        x.next();
        x.machine(1);
        x.feed(5);
        x.next();
        x.next();
        CHECK.due("sum", x.sum(), 0);
    }

    private static void nextTakesNothingBeforeItAsked() {
        CHECK.sentence("7: the answer that was asked for, IF ONE WAS");
        SettingSearch x = Runs.twoByThree();
        x.feed(5);
        x.next();
        CHECK.due("kept after the first next", x.kept(5), 0);
        CHECK.due("sum after the first next", x.sum(), Runs.NO_SUM);
    }

    private static void nextGoesOnThroughKeptAnswers() {
        CHECK.sentence("7: goes on through vectors with kept answers");
        SettingSearch x = Runs.twoByThree();
        Runs.tell(x, 4, 1, 4);
        CHECK.due("ended at the second", x.proved(), true);
        x.worth(0, 1, 11);
        x.feed(4);
        CHECK.due("next", x.next(), 1);
        CHECK.due("asked", Runs.asked(x, 2).toString(), "[0, 2]");
        CHECK.due("best of the kept ones", x.sum(), 40);
        CHECK.due("kept", x.kept(4), 2);
        x.next();
        CHECK.due("kept then", x.kept(4), 3);
        CHECK.due("asked then", Runs.asked(x, 2).toString(), "[1, 0]");
    }

    /** From another current one, kept answers lie behind vectors that are asked for. */
    private static void nextGoesOnToTheBoundOfKeptAnswers() {
        CHECK.sentence("7: goes on through vectors with kept answers, to the end at the bound");
        SettingSearch x = Runs.twoByThree();
        x.worth(0, 1, 11);
        x.feed(6);
        x.next();
        x.next();
        x.answer(0, 0, 6);
        x.next();
        x.answer(0, 0, 6);
        x.next();
        x.answer(0, 1, 6);
        CHECK.due("ends at the fourth", x.next(), 0);
        CHECK.due("take", x.take(), 1);
        x.worth(0, 1, 0);
        x.feed(6);
        CHECK.due("asks beyond the kept ones", x.next(), 1);
        CHECK.due("asked", Runs.asked(x, 2).toString(), "[1, 1]");
        CHECK.due("next", x.next(), 1);
        CHECK.due("asked then", Runs.asked(x, 2).toString(), "[1, 2]");
        CHECK.due("ends at a kept one", x.next(), 0);
        CHECK.due("best", Runs.best(x, 2).toString(), "[0, 1]");
        CHECK.due("sum", x.sum(), 60);
        CHECK.due("kept", x.kept(6), 6);
    }

    private static void nextAnswersOneWhenItAsks() {
        CHECK.sentence("7: Answers 1 when it asks for one more vector's answer");
        SettingSearch x = Runs.twoByThree();
        x.feed(1);
        List<String> order = List.of("[0, 0]", "[0, 1]", "[0, 2]", "[1, 0]", "[1, 1]", "[1, 2]");
        for (String vector : order) {
            CHECK.due("next", x.next(), 1);
            CHECK.due("asked", Runs.asked(x, 2).toString(), vector);
        }
    }

    private static void nextAnswersNoughtAtTheEnd() {
        CHECK.sentence("7: 0 when the search ended");
        SettingSearch x = Runs.machines(2);
        x.most(0, 0);
        x.feed(3);
        x.next();
        x.load(0, 1);
        CHECK.due("bound 0, but none stands", x.next(), 1);
        x.load(0, 1);
        CHECK.due("all gone through, none stands", x.next(), 0);
        CHECK.due("no best", x.best(0), -1);
        x.feed(3);
        CHECK.due("all kept", x.next(), 0);
        x.most(0, 1);
        x.feed(3);
        CHECK.due("the first one kept is at the bound", x.next(), 0);
        CHECK.due("best", x.best(0), 0);
    }

    private static void nextAnswersNoneWhenNoneGoesOn() {
        CHECK.sentence("7: NONE when none goes on");
        SettingSearch x = new SettingSearch();
        CHECK.due("new", x.next(), -1);
        x.machine(1);
        CHECK.due("no feed", x.next(), -1);
        x.feed(0);
        CHECK.due("a refused feed", x.next(), -1);
        x.feed(1);
        x.next();
        CHECK.due("the end", x.next(), 0);
        CHECK.due("after the end", x.next(), -1);
        CHECK.due("long after the end", x.next(), -1);
        CHECK.due("kept", x.kept(1), 1);
    }

    private static void askedIsTheSettingAskedFor() {
        CHECK.sentence("8: A machine's setting in the vector that is asked for");
        SettingSearch x = Runs.machines(1, 4, 1, 2, 3);
        x.worth(0, 0, 1);
        Runs.endAt(x, 1, 23);
        CHECK.due("the last of the order", Runs.best(x, 5).toString(), "[0, 3, 0, 1, 2]");
        x.take();
        x.feed(2);
        x.next();
        CHECK.due("asked", Runs.asked(x, 5).toString(), "[0, 3, 0, 1, 2]");
        x.answer(0, 0, 1);
        x.load(4, 1);
        CHECK.due("asked after it was told", Runs.asked(x, 5).toString(), "[0, 3, 0, 1, 2]");
    }

    private static void askedIsNoneWhenNoneIsAsked() {
        CHECK.sentence("8: NONE when none is");
        SettingSearch x = Runs.twoByThree();
        CHECK.due("no search", x.asked(0), -1);
        x.feed(1);
        CHECK.due("before next", x.asked(0), -1);
        x.next();
        x.answer(0, 0, 1);
        CHECK.due("end", x.next(), 0);
        CHECK.due("after an end at the bound", x.asked(0), -1);
        Runs.searchAll(x, 2, 0);
        CHECK.due("after all", x.asked(1), -1);
        x.feed(2);
        CHECK.due("begun again", x.asked(0), -1);
    }

    private static void askedIsNoneOfOtherMachines() {
        CHECK.sentence("8: NONE when there is no such machine");
        SettingSearch x = Runs.twoByThree();
        x.feed(1);
        x.next();
        CHECK.due("asked(1)", x.asked(1), 0);
        CHECK.due("asked(2)", x.asked(2), -1);
        for (int machine : Runs.WRONG_MACHINES) {
            CHECK.due("asked(" + machine + ")", x.asked(machine), -1);
        }
    }

    private static void answerIsNoughtOrMore() {
        CHECK.sentence("9: grams of a kind in a port, 0 or more. Answers true");
        for (int place = 0; place < 9; place++) {
            SettingSearch x = Runs.machines(1);
            x.worth(place / 3, place % 3, 1);
            x.feed(1000000);
            x.next();
            CHECK.due("0", x.answer(place / 3, place % 3, 0), true);
            CHECK.due("1", x.answer(place / 3, place % 3, 1), true);
            CHECK.due("1000000", x.answer(place / 3, place % 3, 1000000), true);
            CHECK.due("999999", x.answer(place / 3, place % 3, 999999), true);
            x.next();
            CHECK.due("sum", x.sum(), 999999);
        }
    }

    private static void answerIsToldAnew() {
        CHECK.sentence("9: told anew, grams take the place of those before");
        SettingSearch x = Runs.twoByThree();
        x.feed(10);
        x.next();
        CHECK.due("all of the feed", x.answer(0, 0, 10), true);
        CHECK.due("the same again", x.answer(0, 0, 10), true);
        CHECK.due("less", x.answer(0, 0, 6), true);
        CHECK.due("the rest elsewhere", x.answer(2, 2, 4), true);
        CHECK.due("less of the rest", x.answer(2, 2, 3), true);
        CHECK.due("one more", x.answer(0, 0, 7), true);
        x.next();
        CHECK.due("sum", x.sum(), 70);
    }

    private static void answerRefusesWhenNoneIsAsked() {
        CHECK.sentence("9: false when none is asked for");
        SettingSearch x = Runs.machines(1);
        CHECK.due("no search", x.answer(0, 0, 0), false);
        x.worth(0, 0, 1);
        x.feed(10);
        CHECK.due("before next", x.answer(0, 0, 1), false);
        x.next();
        x.answer(0, 0, 2);
        x.next();
        CHECK.due("after the end", x.answer(0, 0, 3), false);
        CHECK.due("0 after the end", x.answer(0, 0, 0), false);
        x.feed(10);
        x.next();
        CHECK.due("it is kept as it was told", x.sum(), 2);
    }

    private static void answerRefusesOtherPlaces() {
        CHECK.sentence("9: false when these are not such: port, kind");
        SettingSearch x = Runs.machines(1);
        for (int place = 0; place < 9; place++) {
            x.worth(place / 3, place % 3, 1);
        }
        x.feed(10);
        x.next();
        for (int[] place : Runs.WRONG_PLACES) {
            CHECK.due("answer of " + place[0] + ", " + place[1], x.answer(place[0], place[1], 1), false);
        }
        x.next();
        CHECK.due("nothing was told", x.sum(), 0);
    }

    private static void answerRefusesGramsBelowNought() {
        CHECK.sentence("9: false when these are not such: grams below 0");
        long[] wrong = {-1, -10, Integer.MIN_VALUE, -(1L << 32), -(1L << 32) + 5, Long.MIN_VALUE, Long.MIN_VALUE + 5};
        for (long grams : wrong) {
            SettingSearch x = Runs.twoByThree();
            x.feed(10);
            x.next();
            x.answer(0, 0, 4);
            CHECK.due("told anew " + grams, x.answer(0, 0, grams), false);
            CHECK.due("elsewhere " + grams, x.answer(0, 1, grams), false);
            CHECK.due("no more than the rest", x.answer(1, 1, 7), false);
            x.next();
            CHECK.due("sum", x.sum(), 40);
        }
    }

    private static void answerRefusesMoreThanTheFeed() {
        CHECK.sentence("9: false when all grams were more than the feed");
        long[] wrong = {7, 10, 11, 1000001, 1L << 32, (1L << 32) + 1, Long.MAX_VALUE, Long.MAX_VALUE - 4};
        for (long grams : wrong) {
            SettingSearch x = Runs.twoByThree();
            x.feed(10);
            x.next();
            x.answer(0, 0, 4);
            x.answer(2, 0, 4);
            CHECK.due("told anew " + grams, x.answer(0, 0, grams), false);
            CHECK.due("elsewhere " + grams, x.answer(1, 1, grams), false);
            CHECK.due("the rest", x.answer(1, 1, 2), true);
            CHECK.due("no more than the rest", x.answer(1, 1, 3), false);
            x.next();
            CHECK.due("sum", x.sum(), 40);
        }
    }

    private static void loadTakesItsEdges() {
        CHECK.sentence("10: a machine's load, 0 .. 1000000. Answers true");
        for (int machine = 0; machine < 5; machine++) {
            SettingSearch x = Runs.machines(2, 1, 1, 1, 1);
            x.most(machine, 999999);
            x.feed(1);
            x.next();
            CHECK.due("0", x.load(machine, 0), true);
            CHECK.due("1000000", x.load(machine, 1000000), true);
            x.next();
            CHECK.due("more than its most", x.best(0), -1);
            CHECK.due("999999", x.load(machine, 999999), true);
            x.next();
            CHECK.due("no more", x.best(0), 1);
        }
    }

    private static void loadIsToldAnew() {
        CHECK.sentence("10: told anew, a load takes the place of the one before");
        SettingSearch x = Runs.machines(2);
        x.most(0, 5);
        x.feed(1);
        x.next();
        x.load(0, 5);
        x.load(0, 6);
        x.next();
        CHECK.due("6", x.best(0), -1);
        x.load(0, 6);
        x.load(0, 5);
        x.next();
        CHECK.due("5", x.best(0), 1);
    }

    private static void loadRefusesOtherNumbers() {
        CHECK.sentence("10: or false: the load is not such");
        int[] wrong = {-1, 1000001, Integer.MIN_VALUE, Integer.MAX_VALUE};
        for (int v : wrong) {
            SettingSearch x = Runs.machines(2);
            x.most(0, 5);
            x.feed(1);
            x.next();
            x.load(0, 6);
            CHECK.due("load " + v, x.load(0, v), false);
            x.next();
            CHECK.due("it is still 6", x.best(0), -1);
            x.load(0, 5);
            CHECK.due("load " + v, x.load(0, v), false);
            x.next();
            CHECK.due("it is still 5", x.best(0), 1);
        }
    }

    private static void loadRefusesOtherMachines() {
        CHECK.sentence("10: or false: there is no such machine");
        SettingSearch x = Runs.machines(1, 1);
        x.most(0, 5);
        x.most(1, 5);
        x.feed(1);
        x.next();
        for (int machine = 2; machine < 5; machine++) {
            CHECK.due("load of machine " + machine, x.load(machine, 6), false);
        }
        for (int machine : Runs.WRONG_MACHINES) {
            CHECK.due("load of machine " + machine, x.load(machine, 6), false);
        }
        x.next();
        CHECK.due("no load was told", x.best(0), 0);
    }

    private static void loadRefusesWhenNoneIsAsked() {
        CHECK.sentence("10: Of the answer asked for, or false: none is");
        SettingSearch x = Runs.machines(1);
        x.most(0, 5);
        CHECK.due("no search", x.load(0, 6), false);
        x.feed(1);
        CHECK.due("before next", x.load(0, 6), false);
        x.next();
        x.next();
        CHECK.due("stands", x.best(0), 0);
        CHECK.due("after the end", x.load(0, 6), false);
        CHECK.due("0 after the end", x.load(0, 0), false);
        x.feed(1);
        x.next();
        CHECK.due("it is kept as it was told", x.best(0), 0);
    }
}
