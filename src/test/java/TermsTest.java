import java.util.ArrayList;
import java.util.Collections;
import java.util.List;

/** The sentences of "Terms" that name a limit, an edge or an order; what is refused is in RefusalTest. */
public final class TermsTest {
    private static final Check CHECK = new Check("TermsTest");

    public static void main(String[] args) {
        machinesAreFiveAtMost();
        settingsAreOneToFour();
        vectorsAre64AtMost();
        all64VectorsAreGoneThrough();
        currentIsNoughtAtFirst();
        changesAreSettingsOtherThanTheCurrent();
        orderIsByChangesThenByMachines();
        gramsAreNotMoreThanTheFeed();
        gramsOfAllPlacesCountForTheFeed();
        worthIsOfPortAndKind();
        worthIsAllTogether();
        answersAreKeptOfFourFeeds();
        allAnswersOfFourFeedsAreKept();
        puritiesAreRulesNoughtToThree();
        purityIsAtLeast();
        purityOfGreatNumbers();
        purityIsOfItsPortAndKind();
        mostsAreRulesFourAndMore();
        loadIsNotMoreThanItsMost();
        answerStandsWithoutRules();
        answerStandsWhenItKeepsAllRules();
        boundIsOfTheGreatestCents();
        boundIsNoughtAtLeast();
        searchEndsWhenAllAreGoneThrough();
        searchEndsAtTheBound();
        searchGoesOnBelowTheBound();
        CHECK.finish();
    }

    private static void machinesAreFiveAtMost() {
        CHECK.sentence("MACHINES are numbered from 0 on, 5 at most");
        for (int settings = 1; settings <= 2; settings++) {
            SettingSearch x = new SettingSearch();
            for (int number = 0; number < 5; number++) {
                CHECK.due("machine(" + settings + ")", x.machine(settings), number);
            }
            CHECK.due("sixth machine", x.machine(1), -1);
            CHECK.due("most of the last", x.most(4, 0), true);
            CHECK.due("most of a sixth", x.most(5, 0), false);
        }
    }

    private static void settingsAreOneToFour() {
        CHECK.sentence("each with SETTINGS 0 .. s - 1, s of 1 .. 4");
        for (int settings = 1; settings <= 4; settings++) {
            SettingSearch x = new SettingSearch();
            CHECK.due("machine(0)", x.machine(0), -1);
            CHECK.due("machine(5)", x.machine(5), -1);
            CHECK.due("machine(" + settings + ")", x.machine(settings), 0);
            x.worth(0, 0, 1);
            x.feed(1);
            for (int setting = 0; setting < settings; setting++) {
                CHECK.due("next", x.next(), 1);
                CHECK.due("asked(0)", x.asked(0), setting);
            }
            CHECK.due("next after setting s - 1", x.next(), 0);
        }
    }

    /** All runs of six calls of machine() with settings of 1 .. 4. */
    private static void vectorsAre64AtMost() {
        CHECK.sentence("all settings of all machines are a VECTOR, of which there are 64 at most");
        for (int run = 0; run < 4096; run++) {
            SettingSearch x = new SettingSearch();
            int machines = 0;
            int vectors = 1;
            for (int call = 0; call < 6; call++) {
                int settings = 1 + (run >> (2 * call) & 3);
                boolean fits = machines < 5 && vectors * settings <= 64;
                CHECK.due("run " + run + " call " + call + " machine(" + settings + ")",
                        x.machine(settings), fits ? machines : -1);
                machines += fits ? 1 : 0;
                vectors *= fits ? settings : 1;
            }
        }
    }

    private static void all64VectorsAreGoneThrough() {
        CHECK.sentence("64 at most: all of them");
        SettingSearch x = Runs.machines(4, 4, 4);
        x.worth(0, 0, 1);
        CHECK.due("asked in all", Runs.searchAll(x, 5, 1), 64);
        CHECK.due("kept", x.kept(5), 64);
        CHECK.due("proved", x.proved(), true);
        CHECK.due("again", Runs.searchAll(x, 5, 1), 0);
    }

    private static void currentIsNoughtAtFirst() {
        CHECK.sentence("THE CURRENT one is 0 everywhere at first");
        SettingSearch x = Runs.machines(4, 2, 2, 2, 2);
        x.feed(1);
        x.next();
        CHECK.due("first asked", Runs.asked(x, 5).toString(), "[0, 0, 0, 0, 0]");
        x.next();
        CHECK.due("changes of it", x.changes(), 0);
        CHECK.due("settings that it changes", x.take(), 0);
    }

    private static void changesAreSettingsOtherThanTheCurrent() {
        CHECK.sentence("A vector's CHANGES are how many of its settings are other than the current one's");
        List<Integer> settings = List.of(2, 2, 2, 2, 2);
        List<Integer> none = List.of(0, 0, 0, 0, 0);
        List<List<Integer>> order = Vectors.inOrder(settings, none);
        for (int n = 0; n < order.size(); n++) {
            SettingSearch x = Runs.machines(2, 2, 2, 2, 2);
            x.worth(0, 0, 1);
            Runs.endAt(x, 7, n);
            int want = Collections.frequency(order.get(n), 1);
            CHECK.due("changes of " + order.get(n), x.changes(), want);
            CHECK.due("take of " + order.get(n), x.take(), want);
        }
        SettingSearch x = Runs.machines(4);
        x.worth(0, 0, 1);
        Runs.endAt(x, 7, 3);
        CHECK.due("setting 3 instead of 0 is one change", x.changes(), 1);
    }

    private static void orderIsByChangesThenByMachines() {
        CHECK.sentence("THE ORDER of vectors: fewer changes first; of the same by the settings of machine 0");
        int[][] shapes = {{1}, {4}, {2, 3}, {3, 2}, {1, 3, 1, 4}, {2, 3, 2}, {4, 4, 4}, {2, 2, 2, 2, 2},
            {4, 1, 4, 1, 4}, {3, 3, 3, 2, 1}};
        for (int[] shape : shapes) {
            List<Integer> settings = new ArrayList<>();
            for (int count : shape) {
                settings.add(count);
            }
            List<List<Integer>> first = Vectors.inOrder(settings, Collections.nCopies(shape.length, 0));
            for (int n = 0; n < first.size(); n++) {
                SettingSearch x = Runs.machines(shape);
                x.worth(0, 0, 1);
                Runs.endAt(x, 1, n);
                x.take();
                dueOrder(x, Vectors.inOrder(settings, first.get(n)), "from " + first.get(n));
            }
        }
    }

    private static void dueOrder(SettingSearch x, List<List<Integer>> order, String from) {
        x.feed(2);
        for (List<Integer> vector : order) {
            CHECK.due(from + " next", x.next(), 1);
            CHECK.due(from + " asked", Runs.asked(x, vector.size()).toString(), vector.toString());
        }
        CHECK.due(from + " end", x.next(), 0);
    }

    private static void gramsAreNotMoreThanTheFeed() {
        CHECK.sentence("not more in all than the feed");
        long[] feeds = {1, 2, 1000000};
        for (long feed : feeds) {
            SettingSearch x = Runs.machines(1);
            x.feed(feed);
            x.next();
            CHECK.due("more than the feed of " + feed, x.answer(2, 2, feed + 1), false);
            CHECK.due("as much as the feed of " + feed, x.answer(2, 2, feed), true);
            CHECK.due("one gram more elsewhere", x.answer(0, 0, 1), false);
            CHECK.due("no gram elsewhere", x.answer(0, 0, 0), true);
        }
    }

    private static void gramsOfAllPlacesCountForTheFeed() {
        CHECK.sentence("not more in all than the feed: of all ports and kinds");
        SettingSearch x = Runs.machines(1);
        x.feed(9);
        x.next();
        for (int place = 0; place < 9; place++) {
            CHECK.due("1 in place " + place, x.answer(place / 3, place % 3, 1), true);
        }
        for (int place = 0; place < 9; place++) {
            CHECK.due("2 in place " + place, x.answer(place / 3, place % 3, 2), false);
        }
        for (int place = 0; place < 9; place++) {
            CHECK.due("0 in place " + place, x.answer(place / 3, place % 3, 0), true);
            int other = (place + 1) % 9;
            CHECK.due("2 beside it", x.answer(other / 3, other % 3, 2), true);
            CHECK.due("3 beside it", x.answer(other / 3, other % 3, 3), false);
            CHECK.due("1 beside it", x.answer(other / 3, other % 3, 1), true);
            CHECK.due("1 in place " + place + " again", x.answer(place / 3, place % 3, 1), true);
        }
    }

    private static void worthIsOfPortAndKind() {
        CHECK.sentence("ITS WORTH are the grams times the cents of their port and kind");
        for (int cents = 0; cents < 9; cents++) {
            for (int place = 0; place < 9; place++) {
                SettingSearch x = Runs.machines(2);
                x.worth(cents / 3, cents % 3, 7);
                x.feed(5);
                x.next();
                x.answer(place / 3, place % 3, 3);
                x.next();
                CHECK.due("cents in " + cents + ", grams in " + place, x.sum(), cents == place ? 21 : 0);
            }
        }
    }

    private static void worthIsAllTogether() {
        CHECK.sentence("ITS WORTH .. together");
        SettingSearch x = Runs.machines(1);
        int[] cents = {-105, -95, -85, -5, 5, 15, 95, 105, 115};
        int[] grams = {1, 8, 15, 2, 9, 16, 3, 10, 17};
        for (int place = 0; place < 9; place++) {
            x.worth(place / 3, place % 3, cents[place]);
        }
        x.feed(1000);
        x.next();
        for (int place = 0; place < 9; place++) {
            x.answer(place / 3, place % 3, grams[place]);
        }
        x.next();
        // -105 - 760 - 1275 - 10 + 45 + 240 + 285 + 1050 + 1955
        CHECK.due("sum", x.sum(), 1425);
    }

    private static void answersAreKeptOfFourFeeds() {
        CHECK.sentence("Answers are KEPT by feeds, of 4 feeds at most");
        SettingSearch x = Runs.machines(1);
        long[] feeds = {1, 1000000, 2, 999999};
        for (long feed : feeds) {
            CHECK.due("feed(" + feed + ")", x.feed(feed), true);
            x.next();
            x.next();
        }
        CHECK.due("fifth feed", x.feed(3), false);
        for (long feed : feeds) {
            CHECK.due("kept(" + feed + ")", x.kept(feed), 1);
        }
        CHECK.due("kept(3)", x.kept(3), 0);
    }

    private static void allAnswersOfFourFeedsAreKept() {
        CHECK.sentence("Answers are KEPT by feeds: 64 of each of four");
        SettingSearch x = Runs.machines(4, 4, 4);
        x.worth(0, 0, 1);
        for (int feed = 1; feed <= 4; feed++) {
            x.feed(feed);
            for (int vector = 0; vector < 64; vector++) {
                x.next();
            }
            x.answer(0, 0, feed - 1);
            x.load(1, feed);
            CHECK.due("end", x.next(), 0);
        }
        CHECK.due("fifth feed", x.feed(5), false);
        for (int feed = 1; feed <= 4; feed++) {
            CHECK.due("kept(" + feed + ")", x.kept(feed), 64);
            x.feed(feed);
            CHECK.due("none is asked for", x.next(), 0);
            CHECK.due("sum of feed " + feed, x.sum(), feed - 1);
        }
    }

    private static void puritiesAreRulesNoughtToThree() {
        CHECK.sentence("RULES: 0 .. 3 are PURITIES");
        for (int told = 0; told < 4; told++) {
            SettingSearch x = Runs.machines(1);
            for (int number = 0; number < 4; number++) {
                CHECK.due("purity", x.purity(0, number == told ? 1 : 0, 1, 1), number);
            }
            CHECK.due("one more", x.purity(0, 0, 1, 1), -1);
            x.feed(1);
            x.next();
            x.answer(0, 0, 1);
            x.next();
            CHECK.due("the rule that is not kept", x.clash(0), told);
        }
    }

    private static void purityIsAtLeast() {
        CHECK.sentence("grams of the kind in the port times BELOW are at least ABOVE times all grams in the port");
        for (int above = 0; above <= 3; above++) {
            for (int below = 1; below <= 3; below++) {
                for (int grams = 0; grams <= 4; grams++) {
                    for (int others = 0; others <= 4; others++) {
                        CHECK.due(above + " above, " + below + " below, " + grams + " of it, " + others + " others",
                                isPure(above, below, grams, others), grams * below >= above * (grams + others));
                    }
                }
            }
        }
    }

    private static void purityOfGreatNumbers() {
        CHECK.sentence("at least ABOVE times all grams: great numbers");
        CHECK.due("999 of 1000, just enough", isPure(999, 1000, 999000, 1000), true);
        CHECK.due("999 of 1000, one too few", isPure(999, 1000, 998999, 1001), false);
        CHECK.due("1000 of 1000, all of it", isPure(1000, 1000, 1000000, 0), true);
        CHECK.due("1000 of 1000, but one", isPure(1000, 1000, 999999, 1), false);
        CHECK.due("1000 times all of it", isPure(1000, 1, 1000000, 0), false);
        CHECK.due("1000 times nothing", isPure(1000, 1, 0, 0), true);
        CHECK.due("1 of 1000, just enough", isPure(1, 1000, 1000, 999000), true);
        CHECK.due("1 of 1000, one too few", isPure(1, 1000, 999, 999001), false);
        CHECK.due("0 of 1000", isPure(0, 1000, 0, 1000000), true);
    }

    /** Whether an answer with such grams of kind 2 in port 1, and others there, keeps the purity. */
    private static boolean isPure(int above, int below, int grams, int others) {
        SettingSearch x = Runs.machines(1);
        x.purity(1, 2, above, below);
        x.feed(1000000);
        x.next();
        x.answer(1, 2, grams);
        x.answer(1, 0, others - others / 2);
        x.answer(1, 1, others / 2);
        x.next();
        return x.best(0) == 0;
    }

    private static void purityIsOfItsPortAndKind() {
        CHECK.sentence("PURITIES: of a port and a kind");
        for (int place = 0; place < 9; place++) {
            for (int other = 0; other < 9; other++) {
                SettingSearch x = Runs.machines(1);
                x.purity(place / 3, place % 3, 1, 1);
                x.feed(2);
                x.next();
                x.answer(other / 3, other % 3, 1);
                x.next();
                boolean spoils = other / 3 == place / 3 && other != place;
                CHECK.due("purity of " + place + ", a gram in " + other, x.best(0), spoils ? -1 : 0);
            }
        }
    }

    private static void mostsAreRulesFourAndMore() {
        CHECK.sentence("4 + m is told by most()");
        for (int machine = 0; machine < 5; machine++) {
            SettingSearch x = Runs.machines(1, 1, 1, 1, 1);
            x.most(machine, 0);
            x.feed(1);
            x.next();
            for (int loaded = 0; loaded < 5; loaded++) {
                x.load(loaded, 1);
            }
            x.next();
            CHECK.due("the rule that is not kept", x.clash(0), 4 + machine);
            CHECK.due("no other one", x.clash(1), -1);
        }
    }

    private static void loadIsNotMoreThanItsMost() {
        CHECK.sentence("the load of machine m is not more than its MOST");
        int[] mosts = {0, 1, 7, 999999};
        for (int machine = 0; machine < 5; machine++) {
            for (int most : mosts) {
                CHECK.due("as much as " + most, bearsLoad(machine, most, most), true);
                CHECK.due("one more than " + most, bearsLoad(machine, most, most + 1), false);
            }
            CHECK.due("1000000", bearsLoad(machine, 1000000, 1000000), true);
        }
    }

    /** Of five machines with the same most only one has a load at all. */
    private static boolean bearsLoad(int machine, int most, int load) {
        SettingSearch x = Runs.machines(1, 1, 1, 1, 1);
        for (int other = 0; other < 5; other++) {
            x.most(other, most);
        }
        x.feed(1);
        x.next();
        x.load(machine, load);
        x.next();
        return x.best(0) == 0;
    }

    private static void answerStandsWithoutRules() {
        CHECK.sentence("An answer STANDS when it keeps all rules that are told: none is told");
        SettingSearch x = Runs.machines(1, 1, 1, 1, 1);
        x.feed(9);
        x.next();
        for (int place = 0; place < 9; place++) {
            x.answer(place / 3, place % 3, 1);
        }
        for (int machine = 0; machine < 5; machine++) {
            x.load(machine, 1000000);
        }
        x.next();
        CHECK.due("best", x.best(0), 0);
    }

    private static void answerStandsWhenItKeepsAllRules() {
        CHECK.sentence("An answer STANDS when it keeps all rules that are told");
        CHECK.due("keeps all nine", standsBut(-1), true);
        for (int rule = 0; rule < 9; rule++) {
            CHECK.due("keeps all but rule " + rule, standsBut(rule), false);
        }
    }

    /** Four purities of two ports and five mosts are told; the answer breaks the one rule alone. */
    private static boolean standsBut(int broken) {
        SettingSearch x = Runs.machines(1, 1, 1, 1, 1);
        for (int rule = 0; rule < 4; rule++) {
            x.purity(rule / 2, rule % 2, 1, 3);
        }
        for (int machine = 0; machine < 5; machine++) {
            x.most(machine, 1);
        }
        x.feed(9);
        x.next();
        for (int rule = 0; rule < 4; rule++) {
            x.answer(rule / 2, rule % 2, rule == broken ? 0 : 1);
        }
        for (int machine = 0; machine < 5; machine++) {
            x.load(machine, 4 + machine == broken ? 2 : 1);
        }
        x.next();
        return x.best(0) == 0;
    }

    private static void boundIsOfTheGreatestCents() {
        CHECK.sentence("THE BOUND is the feed times the greatest of all cents");
        for (int place = 0; place < 9; place++) {
            SettingSearch x = Runs.machines(1);
            for (int other = 0; other < 9; other++) {
                x.worth(other / 3, other % 3, other == place ? 12 : 11 - other);
            }
            x.feed(70);
            CHECK.due("greatest in place " + place, x.bound(), 840);
        }
        SettingSearch x = Runs.machines(1);
        x.worth(2, 2, 1000);
        x.feed(1000000);
        CHECK.due("greatest of all bounds", x.bound(), 1000000000L);
    }

    private static void boundIsNoughtAtLeast() {
        CHECK.sentence("THE BOUND .. 0 at least");
        SettingSearch x = Runs.machines(2);
        for (int place = 0; place < 9; place++) {
            x.worth(place / 3, place % 3, -1 - place);
        }
        x.feed(10);
        CHECK.due("bound of cents below 0", x.bound(), 0);
        x.next();
        x.answer(0, 0, 1);
        CHECK.due("a worth below 0 is not at the bound", x.next(), 1);
        CHECK.due("worth of nothing is", x.next(), 0);
        CHECK.due("sum", x.sum(), 0);
        x.worth(1, 1, 1);
        CHECK.due("bound of 1 cent", x.bound(), 10);
    }

    private static void searchEndsWhenAllAreGoneThrough() {
        CHECK.sentence("The search ENDS when all vectors have been gone through");
        int[][] shapes = {{1}, {1, 1, 1, 1, 1}, {4}, {2, 3}, {4, 4, 4}, {2, 2, 2, 2, 2}};
        int[] vectors = {1, 1, 4, 6, 64, 32};
        for (int shape = 0; shape < shapes.length; shape++) {
            SettingSearch x = Runs.machines(shapes[shape]);
            x.worth(0, 0, 1);
            x.feed(1);
            for (int vector = 0; vector < vectors[shape]; vector++) {
                CHECK.due("next", x.next(), 1);
                CHECK.due("proved", x.proved(), false);
            }
            CHECK.due("next at the end", x.next(), 0);
            CHECK.due("proved at the end", x.proved(), true);
        }
    }

    private static void searchEndsAtTheBound() {
        CHECK.sentence("The search ENDS when .. the best one's worth is the bound");
        for (int n = 0; n < 6; n++) {
            SettingSearch x = Runs.twoByThree();
            Runs.endAt(x, 8, n);
            CHECK.due("proved", x.proved(), true);
            CHECK.due("no more asked", x.kept(8), n + 1);
            CHECK.due("sum", x.sum(), 80);
            CHECK.due("none goes on", x.next(), -1);
        }
        SettingSearch x = Runs.machines(4, 4, 4);
        x.feed(3);
        x.next();
        CHECK.due("bound and worth of 0", x.next(), 0);
    }

    private static void searchGoesOnBelowTheBound() {
        CHECK.sentence("the BEST one's worth is the BOUND: neither one below it, nor one that does not stand");
        SettingSearch x = Runs.machines(4);
        x.worth(0, 0, 1000);
        x.worth(0, 1, 999);
        x.most(0, 5);
        x.feed(1000000);
        x.next();
        x.answer(0, 0, 999999);
        x.answer(0, 1, 1);
        CHECK.due("a cent below the bound", x.next(), 1);
        x.answer(0, 0, 1000000);
        x.load(0, 6);
        CHECK.due("at the bound with too much load", x.next(), 1);
        CHECK.due("best so far", x.sum(), 999999999L);
        x.answer(0, 0, 1000000);
        x.load(0, 5);
        CHECK.due("at the bound", x.next(), 0);
        CHECK.due("best", x.best(0), 2);
    }
}
